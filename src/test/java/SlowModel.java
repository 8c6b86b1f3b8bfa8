import java.util.ArrayList;
import java.util.Arrays;
import java.util.List;
import java.util.TreeMap;

/**
 * The document once more, written for reading and not for speed: bounds are found by trying all
 * chains, paths are followed with new objects at each instruction. Tests compare it with CostChecker.
 */
final class SlowModel {
    record Instruction(int kind, int n) { }

    record Claim(int a, int b, long c) { }

    record Term(long k, int a, int b) { }

    record Symbol(int side, long number) { }

    static final class Potential {
        long base;
        final List<Term> terms = new ArrayList<>();
    }

    static final class Cut {
        final List<Claim> claims = new ArrayList<>();
        final Potential[] potentials = {new Potential(), new Potential()};
    }

    static final class Method {
        List<Instruction> code = new ArrayList<>();
        TreeMap<Integer, Cut> cuts = new TreeMap<>();
        int changedAt;
        int checkedAt = -1;
        int checkAnswer = -1;

        Method() {
            cuts.put(0, new Cut());
        }
    }

    /** How a run ended, or why a check went wrong. */
    static final class Stop extends RuntimeException {
        private static final long serialVersionUID = 1L;
        final int code;

        Stop(int code) {
            super(null, null, false, false);
            this.code = code;
        }
    }

    private final Method[] methods = {new Method(), new Method(), new Method(), new Method()};
    private final List<Integer> inputs = new ArrayList<>();
    private final int[] latest = new int[4];
    private int now;

    private static boolean in(long value, long least, long most) {
        return least <= value && value <= most;
    }

    private Cut cutOf(int m, int place) {
        return in(m, 0, 3) ? methods[m].cuts.get(place) : null;
    }

    private boolean changed(int m) {
        methods[m].changedAt = ++now;
        return true;
    }

    int put(int m, int kind, int n) {
        if (!in(m, 0, 3) || methods[m].code.size() == 24 || !in(kind, 0, 14) || !in(n, -1000, 1000)) {
            return -1;
        }
        methods[m].code.add(new Instruction(kind, n));
        changed(m);
        return methods[m].code.size() - 1;
    }

    boolean clear(int m) {
        if (!in(m, 0, 3)) {
            return false;
        }
        methods[m] = new Method();
        return changed(m);
    }

    boolean cut(int m, int place) {
        if (!in(m, 0, 3) || !in(place, 0, 23) || cutOf(m, place) != null || methods[m].cuts.size() == 6) {
            return false;
        }
        methods[m].cuts.put(place, new Cut());
        return changed(m);
    }

    boolean claim(int m, int place, int a, int b, int c) {
        Cut cut = cutOf(m, place);
        if (cut == null || cut.claims.size() == 6 || !in(a, 0, 4) || !in(b, 0, 4) || a == b || !in(c, -1000, 1000)) {
            return false;
        }
        cut.claims.add(new Claim(a, b, c));
        return changed(m);
    }

    boolean base(int m, int place, int what, int base) {
        Cut cut = cutOf(m, place);
        if (cut == null || !in(what, 0, 1) || !in(base, -10000, 10000)) {
            return false;
        }
        cut.potentials[what].base = base;
        return changed(m);
    }

    boolean term(int m, int place, int what, int k, int side) {
        Cut cut = cutOf(m, place);
        int a = Math.floorDiv(side, 5);
        int b = Math.floorMod(side, 5);
        if (cut == null || !in(what, 0, 1) || cut.potentials[what].terms.size() == 3 || !in(k, 1, 100)) {
            return false;
        }
        if (!in(a, 0, 4) || a == b) {
            return false;
        }
        cut.potentials[what].terms.add(new Term(k, a, b));
        return changed(m);
    }

    boolean accepted(int m) {
        if (!in(m, 0, 3) || methods[m].checkAnswer != 0) {
            return false;
        }
        for (int lower = 0; lower <= m; lower++) {
            if (methods[lower].changedAt > methods[m].checkedAt) {
                return false;
            }
        }
        return true;
    }

    long bound(int m, int what, int x, int y, int z) {
        if (!in(m, 0, 3) || !in(what, 0, 1) || !accepted(m)) {
            return -1;
        }
        long[] values = {x, y, z, 0, 0};
        for (long value : values) {
            if (!in(value, -1000000, 1000000)) {
                return -1;
            }
        }
        Cut cut = methods[m].cuts.get(0);
        for (Claim claim : cut.claims) {
            if (values[claim.a] - values[claim.b] > claim.c) {
                return -1;
            }
        }
        long sum = cut.potentials[what].base;
        for (Term term : cut.potentials[what].terms) {
            sum += term.k * (values[term.a] - values[term.b]);
        }
        return sum;
    }

    int depth(int m) {
        if (!in(m, 0, 3)) {
            return -1;
        }
        if (methods[m].code.isEmpty()) {
            return 0;
        }
        int below = 0;
        for (int callee = 0; callee < m; callee++) {
            if (methods[m].code.contains(new Instruction(11, callee))) {
                below = Math.max(below, depth(callee));
            }
        }
        return 1 + below;
    }

    boolean feed(int v) {
        return inputs.size() < 12 && in(v, -1000000, 1000000) && inputs.add(v);
    }

    int ran(int what) {
        return in(what, 0, 3) ? latest[what] : -1;
    }

    // The machine.

    int run(int m, int x, int y, int z) {
        boolean values = in(x, -1000000, 1000000) && in(y, -1000000, 1000000) && in(z, -1000000, 1000000);
        if (!in(m, 0, 3) || methods[m].code.isEmpty() || !values) {
            return -1;
        }
        Arrays.fill(latest, 0);
        int end = 1;
        try {
            latest[3] = execute(m, 1, x, y, z);
        } catch (Stop stop) {
            end = stop.code;
        }
        inputs.clear();
        return end;
    }

    private int execute(int m, int running, int x, int y, int z) {
        latest[2] = Math.max(latest[2], running);
        int[] locals = {x, y, z, 0};
        List<Integer> stack = new ArrayList<>();
        int place = 0;
        while (true) {
            if (!in(place, 0, methods[m].code.size() - 1)) {
                throw new Stop(3);
            }
            if (latest[0] == 3000) {
                throw new Stop(4);
            }
            latest[0]++;
            Instruction i = methods[m].code.get(place);
            if (cramped(m, i, stack.size())) {
                throw new Stop(3);
            }
            place++;
            switch (i.kind) {
                case 0 -> stack.add(i.n);
                case 1 -> stack.add(locals[i.n]);
                case 2 -> locals[i.n] = pop(stack);
                case 3 -> {
                    int right = pop(stack);
                    stack.add(value(pop(stack) + right));
                }
                case 4 -> {
                    int right = pop(stack);
                    stack.add(value(pop(stack) - right));
                }
                case 5, 6 -> locals[i.kind - 5] = value(locals[i.kind - 5] + i.n);
                case 7 -> place = i.n;
                case 8, 9 -> {
                    int right = pop(stack);
                    boolean less = pop(stack) < right;
                    if (i.kind == 8 && less || i.kind == 9 && !less) {
                        place = i.n;
                    }
                }
                case 10 -> {
                    int w = pop(stack);
                    if (w < 0 || (long) latest[1] + w + 2 > 1000000000L) {
                        throw new Stop(2);
                    }
                    latest[1] += w + 2;
                }
                case 11 -> {
                    int c = pop(stack);
                    int b = pop(stack);
                    int a = pop(stack);
                    stack.add(execute(i.n, running + 1, a, b, c));
                }
                case 12 -> {
                    return pop(stack);
                }
                case 13 -> stack.add(inputs.isEmpty() ? 0 : inputs.remove(0));
                default -> pop(stack);
            }
        }
    }

    private static int pop(List<Integer> stack) {
        return stack.remove(stack.size() - 1);
    }

    private static int value(int value) {
        if (!in(value, -1000000, 1000000)) {
            throw new Stop(2);
        }
        return value;
    }

    private boolean cramped(int m, Instruction i, int size) {
        return switch (i.kind) {
            case 0, 13 -> size + 1 > 6;
            case 1 -> size + 1 > 6 || !in(i.n, 0, 3);
            case 2 -> size < 1 || !in(i.n, 0, 3);
            case 3, 4, 8, 9 -> size < 2;
            case 10, 12, 14 -> size < 1;
            case 11 -> size < 3 || !in(i.n, 0, m - 1) || methods[i.n].code.isEmpty();
            default -> false;
        };
    }

    // Checking.

    private Method checked;
    private int checkedNumber;
    private Cut begin;
    private int ended;

    int check(int m) {
        if (!in(m, 0, 3)) {
            return -1;
        }
        checked = methods[m];
        checkedNumber = m;
        int answer = answer();
        checked.checkedAt = ++now;
        checked.checkAnswer = answer;
        return answer;
    }

    private int answer() {
        if (checked.code.isEmpty()) {
            return 2;
        }
        for (int place : checked.cuts.keySet()) {
            begin = checked.cuts.get(place);
            ended = 0;
            try {
                checkCut(place);
            } catch (Stop stop) {
                return 100 * place + stop.code;
            }
        }
        return 0;
    }

    private void checkCut(int place) {
        if (contradicted(begin.claims)) {
            return;
        }
        for (Potential potential : begin.potentials) {
            long sum = potential.base;
            for (Term term : potential.terms) {
                Long opposite = boundOf(begin.claims, term.b, term.a);
                if (opposite == null) {
                    throw new Stop(1);
                }
                sum += term.k * -opposite;
            }
            if (sum < 0) {
                throw new Stop(1);
            }
        }
        State state = new State();
        state.place = place;
        state.claims = begin.claims;
        for (int side = 0; side < 4; side++) {
            state.locals.add(new Symbol(side, 0));
        }
        follow(state);
    }

    /** The least sum of a chain of claims from a to b; null when there is none. */
    private static Long boundOf(List<Claim> claims, int a, int b) {
        Long best = a == b ? Long.valueOf(0) : null;
        return chain(claims, a, b, 1 << a, 0, best);
    }

    private static Long chain(List<Claim> claims, int at, int goal, int seen, long sum, Long best) {
        for (Claim claim : claims) {
            if (claim.a == at && claim.b == goal && (best == null || sum + claim.c < best)) {
                best = sum + claim.c;
            } else if (claim.a == at && (seen >> claim.b & 1) == 0 && claim.b != goal) {
                best = chain(claims, claim.b, goal, seen | 1 << claim.b, sum + claim.c, best);
            }
        }
        return best;
    }

    private static boolean contradicted(List<Claim> claims) {
        for (int side = 0; side < 5; side++) {
            if (boundOf(claims, side, side) < 0) {
                return true;
            }
        }
        return false;
    }

    static final class State {
        int place;
        int made;
        List<Claim> claims;
        List<Symbol> locals = new ArrayList<>();
        List<Symbol> stack = new ArrayList<>();
        // What the path costs: numbers and terms over symbols.
        long[] paid = new long[2];
        List<Paid> terms = new ArrayList<>();

        State copy() {
            State other = new State();
            other.place = place;
            other.made = made;
            other.claims = claims;
            other.locals = new ArrayList<>(locals);
            other.stack = new ArrayList<>(stack);
            other.paid = paid.clone();
            other.terms = new ArrayList<>(terms);
            return other;
        }

        Symbol pop() {
            return stack.remove(stack.size() - 1);
        }
    }

    record Paid(int what, long k, Symbol a, Symbol b) { }

    private static final Symbol ZERO = new Symbol(4, 0);

    private void follow(State s) {
        if (!in(s.place, 0, checked.code.size() - 1)) {
            throw new Stop(2);
        }
        if (s.made > 0 && checked.cuts.containsKey(s.place)) {
            endAt(s, checked.cuts.get(s.place));
            return;
        }
        if (s.made == 40) {
            throw new Stop(3);
        }
        Instruction i = checked.code.get(s.place);
        if (cramped(checkedNumber, i, s.stack.size())) {
            throw new Stop(2);
        }
        s.made++;
        s.place++;
        s.paid[0]++;
        switch (i.kind) {
            case 0 -> s.stack.add(new Symbol(4, i.n));
            case 1 -> s.stack.add(s.locals.get(i.n));
            case 2 -> s.locals.set(i.n, s.pop());
            case 3 -> {
                Symbol y = s.pop();
                s.stack.add(sum(s.pop(), y));
            }
            case 4 -> {
                Symbol y = s.pop();
                s.stack.add(difference(s.pop(), y));
            }
            case 5, 6 -> {
                Symbol local = s.locals.get(i.kind - 5);
                s.locals.set(i.kind - 5, local == null ? null : new Symbol(local.side, local.number + i.n));
            }
            case 7 -> s.place = i.n;
            case 8, 9 -> {
                part(s, i);
                return;
            }
            case 10 -> makeNew(s);
            case 11 -> call(s, i.n);
            case 12 -> {
                s.pop();
                endAt(s, null);
                return;
            }
            case 13 -> s.stack.add(null);
            default -> s.pop();
        }
        follow(s);
    }

    private static Symbol sum(Symbol x, Symbol y) {
        if (x == null || y == null || x.side != 4 && y.side != 4) {
            return null;
        }
        return new Symbol(x.side == 4 ? y.side : x.side, x.number + y.number);
    }

    private static Symbol difference(Symbol x, Symbol y) {
        if (x == null || y == null || x.side != y.side && y.side != 4) {
            return null;
        }
        return new Symbol(x.side == y.side ? 4 : x.side, x.number - y.number);
    }

    private void part(State s, Instruction i) {
        Symbol y = s.pop();
        Symbol x = s.pop();
        State behind = s.copy();
        State there = s.copy();
        there.place = i.n;
        if (x != null && y != null) {
            Claim less = new Claim(x.side, y.side, -1 - x.number + y.number);
            Claim not = new Claim(y.side, x.side, x.number - y.number);
            behind.claims = with(s.claims, i.kind == 8 ? not : less);
            there.claims = with(s.claims, i.kind == 8 ? less : not);
        }
        if (!contradicted(behind.claims)) {
            follow(behind);
        }
        if (!contradicted(there.claims)) {
            follow(there);
        }
    }

    /** The claims with one more, of which those that say no more than another are left out. */
    private static List<Claim> with(List<Claim> claims, Claim more) {
        List<Claim> all = new ArrayList<>();
        boolean needed = true;
        for (Claim claim : claims) {
            boolean same = claim.a == more.a && claim.b == more.b;
            if (!same || claim.c <= more.c) {
                all.add(claim);
                needed &= !same;
            }
        }
        if (needed) {
            all.add(more);
        }
        return all;
    }

    private void makeNew(State s) {
        Symbol w = s.pop();
        Long opposite = w == null ? null : boundOf(s.claims, 4, w.side);
        if (opposite == null || -opposite + w.number < 0) {
            throw new Stop(5);
        }
        s.paid[1] += 2;
        s.terms.add(new Paid(1, 1, w, ZERO));
    }

    private void call(State s, int callee) {
        Symbol z = s.pop();
        Symbol y = s.pop();
        Symbol x = s.pop();
        List<Symbol> sides = Arrays.asList(x, y, z, ZERO, ZERO);
        Cut cut = methods[callee].cuts.get(0);
        if (!accepted(callee) || !follow(s.claims, cut.claims, sides) || !pay(s, cut, sides)) {
            throw new Stop(6);
        }
        s.stack.add(null);
    }

    private static boolean follow(List<Claim> known, List<Claim> claims, List<Symbol> sides) {
        for (Claim claim : claims) {
            Symbol a = sides.get(claim.a);
            Symbol b = sides.get(claim.b);
            if (a == null || b == null) {
                return false;
            }
            Long bound = boundOf(known, a.side, b.side);
            if (bound == null || bound + a.number - b.number > claim.c) {
                return false;
            }
        }
        return true;
    }

    /** Adds the potentials of a cut to what the path costs; false when a term speaks of NOTHING. */
    private static boolean pay(State s, Cut cut, List<Symbol> sides) {
        for (int what = 0; what < 2; what++) {
            s.paid[what] += cut.potentials[what].base;
            for (Term term : cut.potentials[what].terms) {
                if (sides.get(term.a) == null || sides.get(term.b) == null) {
                    return false;
                }
                s.terms.add(new Paid(what, term.k, sides.get(term.a), sides.get(term.b)));
            }
        }
        return true;
    }

    private void endAt(State s, Cut end) {
        if (ended == 50) {
            throw new Stop(4);
        }
        ended++;
        if (end != null) {
            List<Symbol> sides = new ArrayList<>(s.locals);
            sides.add(ZERO);
            if (!s.stack.isEmpty()) {
                throw new Stop(7);
            }
            if (!follow(s.claims, end.claims, sides)) {
                throw new Stop(8);
            }
            if (!pay(s, end, sides)) {
                throw new Stop(9);
            }
        }
        for (int what = 0; what < 2; what++) {
            if (!shown(s, what)) {
                throw new Stop(9);
            }
        }
    }

    private boolean shown(State s, int what) {
        long[][] factor = new long[5][5];
        long sum = begin.potentials[what].base - s.paid[what];
        for (Term term : begin.potentials[what].terms) {
            factor[term.a][term.b] += term.k;
        }
        for (Paid paid : s.terms) {
            if (paid.what == what) {
                factor[paid.a.side][paid.b.side] -= paid.k;
                sum -= paid.k * (paid.a.number - paid.b.number);
            }
        }
        for (int a = 0; a < 5; a++) {
            for (int b = 0; b < a; b++) {
                long left = factor[a][b] - factor[b][a];
                if (left == 0) {
                    continue;
                }
                Long bound = left > 0 ? boundOf(s.claims, b, a) : boundOf(s.claims, a, b);
                if (bound == null) {
                    return false;
                }
                sum += left > 0 ? left * -bound : left * bound;
            }
        }
        return sum >= 0;
    }
}
