/**
 * Many runs of calls on CostChecker and on SlowModel, whose answers must be the same; and what a
 * check is for: no run of an accepted method costs more than its bound, or is cramped.
 */
public final class AgainstModelTest {
    private static final int RUNS = 12000;
    private static final int MOST_CALLS = 512;

    // How often each reason was answered by check, each end by run, and a bound was there.
    private static final int[] REASONS = new int[10];
    private static final int[] LATER_REASONS = new int[10];
    private static final int[] ENDS = new int[5];
    private static int bounds;
    private static int deepRuns;
    private static int wrong;

    private final StringBuilder calls = new StringBuilder();
    private final CostChecker checker = new CostChecker();
    private final SlowModel model = new SlowModel();
    private long seed;
    private int called;

    private AgainstModelTest(long seed) {
        this.seed = seed * 0x9E3779B97F4A7C15L + 1;
    }

    public static void main(String[] args) {
        for (int run = 0; run < RUNS && wrong < 5; run++) {
            new AgainstModelTest(run).compare(run % 4);
        }
        System.out.println("reasons at place 0: " + java.util.Arrays.toString(REASONS));
        System.out.println("reasons at later cuts: " + java.util.Arrays.toString(LATER_REASONS));
        System.out.println("ends: " + java.util.Arrays.toString(ENDS) + ", bounds: " + bounds + ", calls run: " + deepRuns);
        if (wrong != 0 || !allSeen()) {
            System.out.println("wrong answers: " + wrong + ", all kinds of answers seen: " + allSeen());
            System.exit(1);
        }
    }

    /** Whether the runs were of all the kinds that they are meant to be of. */
    private static boolean allSeen() {
        boolean all = bounds > 1000 && deepRuns > 1000;
        for (int reason = 0; reason < 10; reason++) {
            all &= REASONS[reason] > 1000 && (reason == 0 || reason == 4 || LATER_REASONS[reason] > 100);
        }
        for (int end = 1; end < 5; end++) {
            all &= ENDS[end] > 1000;
        }
        return all;
    }

    private int pick(int count) {
        seed = seed * 6364136223846793005L + 1442695040888963407L;
        return (int) Math.floorMod(seed >>> 33, (long) count);
    }

    private int between(int least, int most) {
        return least + pick(most - least + 1);
    }

    private boolean chance(int percent) {
        return pick(100) < percent;
    }

    private void compare(int style) {
        while (called < MOST_CALLS - 120 && wrong < 5) {
            for (int m = 0; m < 4; m++) {
                if (called > MOST_CALLS - 120 || chance(30)) {
                    continue;
                }
                clear(m);
                if (style == 0) {
                    writeLoop(m);
                } else if (style == 1) {
                    writeStatements(m);
                } else if (style == 2) {
                    writePartings(m);
                } else {
                    writeWild(m);
                }
                mend(m);
                askAll(m);
            }
        }
        while (called < MOST_CALLS - 12) {
            anyCall();
        }
    }

    // Each call goes to both.

    private void same(String call, long got, long want) {
        called++;
        calls.append(call).append(" = ").append(got).append('\n');
        if (got != want && called <= MOST_CALLS) {
            wrong++;
            System.out.println(calls + "the last answer is wrong, due is " + want);
        }
    }

    private static long number(boolean answer) {
        return answer ? 1 : 0;
    }

    private void put(int m, int kind, int n) {
        same("put " + m + " " + kind + " " + n, checker.put(m, kind, n), model.put(m, kind, n));
    }

    private void clear(int m) {
        same("clear " + m, number(checker.clear(m)), number(model.clear(m)));
    }

    private void cut(int m, int place) {
        same("cut " + m + " " + place, number(checker.cut(m, place)), number(model.cut(m, place)));
    }

    private void claim(int m, int place, int a, int b, int c) {
        same("claim " + m + " " + place + " " + a + " " + b + " " + c,
            number(checker.claim(m, place, a, b, c)), number(model.claim(m, place, a, b, c)));
    }

    private void base(int m, int place, int what, int base) {
        same("base " + m + " " + place + " " + what + " " + base,
            number(checker.base(m, place, what, base)), number(model.base(m, place, what, base)));
    }

    private void term(int m, int place, int what, int k, int side) {
        same("term " + m + " " + place + " " + what + " " + k + " " + side,
            number(checker.term(m, place, what, k, side)), number(model.term(m, place, what, k, side)));
    }

    private int check(int m) {
        int answer = checker.check(m);
        same("check " + m, answer, model.check(m));
        if (answer >= 0) {
            (answer < 100 ? REASONS : LATER_REASONS)[answer % 100]++;
        }
        return answer;
    }

    private int run(int m, int x, int y, int z) {
        int end = checker.run(m, x, y, z);
        same("run " + m + " " + x + " " + y + " " + z, end, model.run(m, x, y, z));
        for (int what = 0; what < 4; what++) {
            same("ran " + what, checker.ran(what), model.ran(what));
        }
        if (end > 0) {
            ENDS[end]++;
            deepRuns += checker.ran(2) > 1 ? 1 : 0;
        }
        return end;
    }

    private long bound(int m, int what, int x, int y, int z) {
        long answer = checker.bound(m, what, x, y, z);
        same("bound " + m + " " + what + " " + x + " " + y + " " + z, answer, model.bound(m, what, x, y, z));
        bounds += answer >= 0 ? 1 : 0;
        return answer;
    }

    private void feed(int v) {
        same("feed " + v, number(checker.feed(v)), number(model.feed(v)));
    }

    private void askAll(int m) {
        same("accepted " + m, number(checker.accepted(m)), number(model.accepted(m)));
        same("depth " + m, checker.depth(m), model.depth(m));
        for (int i = 0; i < 2; i++) {
            int x = chance(80) ? between(-3, 9) : between(-1000001, 1000001);
            int y = chance(80) ? between(0, 20) : between(-1000001, 1000001);
            int z = chance(80) ? between(-3, 9) : between(-1000001, 1000001);
            long steps = bound(m, 0, x, y, z);
            long words = bound(m, 1, x, y, z);
            if (chance(50)) {
                feed(between(-3, 9));
            }
            int end = run(m, x, y, z);
            boolean kept = checker.ran(0) <= steps && checker.ran(1) <= words && end != 3;
            if (steps >= 0 && !kept) {
                wrong++;
                System.out.println(calls + "the run costs more than its bound, or is cramped");
            }
        }
    }

    // Programs.

    private int local() {
        return chance(98) ? pick(4) : between(-1, 4);
    }

    private void value(int m, int nothing) {
        if (chance(nothing)) {
            put(m, Dues.READ, 0);
        } else if (chance(60)) {
            put(m, Dues.LOAD, local());
        } else {
            put(m, Dues.PUSH, between(-2, 9));
        }
    }

    /** An instruction or some that leave the stack as it was; those that part go to one of the places. */
    private void statement(int m, int... places) {
        switch (pick(9)) {
            case 0:
                put(m, Dues.UP, between(-1, 3));
                break;
            case 1:
                put(m, Dues.UP_1, between(-3, 1));
                break;
            case 2:
                value(m, 5);
                value(m, 5);
                put(m, chance(50) ? Dues.ADD : Dues.SUB, 0);
                put(m, Dues.STORE, local());
                break;
            case 3:
            case 4:
                value(m, 10);
                value(m, 10);
                put(m, chance(50) ? Dues.IFLESS : Dues.IFNOT, places[pick(places.length)]);
                break;
            case 5:
                value(m, 2);
                put(m, Dues.NEW, 0);
                break;
            case 6:
                call(m);
                break;
            case 7:
                value(m, 20);
                put(m, Dues.STORE, chance(70) ? between(2, 3) : local());
                break;
            default:
                put(m, Dues.UP, 0);
                break;
        }
    }

    private void call(int m) {
        value(m, 5);
        value(m, 5);
        value(m, 5);
        put(m, Dues.CALL, chance(95) && m > 0 ? pick(m) : between(-1, 4));
        put(m, chance(50) ? Dues.DROP : Dues.STORE, between(2, 3));
    }

    /** Counts local 0 up to local 1, with a body that may spoil it, and a certificate that is nearly right. */
    private void writeLoop(int m) {
        int before = pick(3);
        for (int i = 0; i < before; i++) {
            put(m, Dues.UP, between(0, 1));
        }
        int head = before;
        int exit = head + 5 + between(1, 9);
        put(m, Dues.LOAD, 0);
        put(m, Dues.LOAD, 1);
        put(m, Dues.IFNOT, exit);
        if (chance(80)) {
            statement(m, exit, head + 3, 0);
        }
        put(m, Dues.UP, chance(90) ? 1 : 2);
        put(m, Dues.GOTO, head);
        for (int i = 0; i < 14; i++) {
            if (chance(10)) {
                call(m);
            } else {
                put(m, i % 3 == 2 ? Dues.RETURN : Dues.PUSH, between(0, 3));
            }
        }
        if (head > 0 && chance(90)) {
            cut(m, head);
        }
        int[] cuts = {0, head};
        for (int place : cuts) {
            claim(m, place, 0, 1, place == head ? 0 : -before);
            claim(m, place, 4, 2, 0);
            claim(m, place, 4, 0, 0);
            for (int what = 0; what < 2; what++) {
                base(m, place, what, between(0, 20) + (place == head ? 0 : 30));
                term(m, place, what, between(5, 40), Dues.side(1, 0));
            }
        }
    }

    private void writeStatements(int m) {
        int count = between(2, 7);
        for (int i = 0; i < count; i++) {
            statement(m, between(0, 12), between(4, 16));
        }
        for (int i = 0; i < 6; i++) {
            put(m, Dues.PUSH, 1);
            put(m, chance(70) ? Dues.RETURN : Dues.DROP, 0);
        }
        certify(m);
    }

    /** Up to seven partings that mostly go on to later ones, behind one instruction at most. */
    private void writePartings(int m) {
        int first = pick(2);
        if (first == 1) {
            put(m, Dues.UP, 1);
        }
        int count = chance(50) ? 7 : between(2, 6);
        int knownOnes = chance(50) ? 5 : 60;
        for (int i = 0; i < count; i++) {
            boolean known = chance(knownOnes);
            put(m, known ? Dues.LOAD : Dues.READ, known ? pick(2) : 0);
            put(m, chance(50) ? Dues.LOAD : Dues.PUSH, between(0, 2));
            int target = first + 3 * (chance(99) ? between(i + 1, Math.min(count, i + 2)) : pick(count));
            put(m, chance(50) ? Dues.IFLESS : Dues.IFNOT, chance(99) ? target : between(-1, 24));
        }
        put(m, Dues.PUSH, 0);
        put(m, Dues.RETURN, 0);
        base(m, 0, 0, chance(70) ? 40 : between(5, 30));
        claim(m, 0, pick(2), chance(50) ? 4 : 2, between(-2, 4));
        if (chance(30)) {
            int place = first + 3 * pick(count + 1);
            cut(m, place);
            base(m, place, 0, between(2, 35));
            claim(m, place, pick(2), chance(50) ? 4 : 2, between(-2, 4));
        }
    }

    private void writeWild(int m) {
        int count = between(0, 12);
        for (int i = 0; i < count; i++) {
            boolean puts = chance(40);
            put(m, puts ? pick(2) : between(-1, 15), chance(97) ? between(-1, 12) : between(-1001, 1001));
        }
        certify(m);
    }

    private void certify(int m) {
        int cuts = pick(3);
        for (int i = 0; i <= cuts; i++) {
            int place = i == 0 ? 0 : between(0, 16);
            cut(m, place);
            int claims = pick(4);
            for (int j = 0; j < claims; j++) {
                claim(m, place, pick(5), pick(5), between(-2, 6));
            }
            base(m, place, 0, chance(80) ? 300 - 12 * place : between(-5, 60));
            base(m, place, 1, chance(80) ? 300 - 12 * place : between(-5, 60));
            if (chance(30)) {
                term(m, place, pick(2), between(1, 9), pick(25));
            }
        }
    }

    /** Checks, and changes the certificate at the place that is wrong, some times. */
    private void mend(int m) {
        for (int i = 0; i < 4; i++) {
            int answer = check(m);
            int place = answer / 100;
            switch (answer % 100) {
                case 0:
                    return;
                case 1:
                case 5:
                    claim(m, place, 4, pick(3), between(-1, 1));
                    break;
                case 6:
                    check(Math.max(m - 1, 0));
                    claim(m, place, pick(5), pick(5), between(-1, 1));
                    break;
                case 8:
                    claim(m, place, pick(5), pick(5), 0);
                    break;
                case 9:
                    base(m, place, pick(2), between(0, 900));
                    if (chance(30)) {
                        term(m, place, pick(2), between(1, 100), pick(25));
                    }
                    break;
                default:
                    cut(m, between(1, 12));
                    break;
            }
        }
        check(m);
    }

    /** A call with arguments at and beyond their edges. */
    private void anyCall() {
        int m = between(-1, 4);
        int place = chance(50) ? 0 : between(-1, 24);
        switch (pick(10)) {
            case 0:
                put(m, between(-1, 15), between(-1001, 1001));
                break;
            case 1:
                cut(m, between(-1, 24));
                break;
            case 2:
                claim(m, place, between(-1, 5), between(-1, 5), between(-1001, 1001));
                break;
            case 3:
                base(m, place, between(-1, 2), between(-10001, 10001));
                break;
            case 4:
                term(m, place, between(-1, 2), between(0, 101), between(-1, 25));
                break;
            case 5:
                check(m);
                break;
            case 6:
                bound(m, between(-1, 2), between(-9, 9), between(-9, 9), between(-9, 9));
                break;
            case 7:
                feed(chance(50) ? between(-9, 9) : between(-1000002, 1000002));
                break;
            case 8:
                run(m, between(-9, 9), between(-9, 9), between(-9, 9));
                break;
            default:
                same("depth " + m, checker.depth(m), model.depth(m));
                same("ran " + m, checker.ran(m), model.ran(m));
                same("accepted " + m, number(checker.accepted(m)), number(model.accepted(m)));
                break;
        }
    }
}
