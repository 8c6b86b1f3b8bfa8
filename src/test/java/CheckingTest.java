/** Promise 8: each reason for which a certificate is wrong, at its edges, and which of several comes first. */
public final class CheckingTest {
    private static final Dues DUES = new Dues();

    public static void main(String[] args) {
        methods();
        contradicted();
        negative();
        chains();
        symbols();
        partings();
        cramped();
        uncut();
        many();
        width();
        called();
        calledWithSymbols();
        stack();
        claim();
        cost();
        costOfCalls();
        order();
        DUES.close();
    }

    private static void due(String what, long got, long want) {
        DUES.due(what, got, want);
    }

    /** Asks for the check of method 0 when its potential of steps at 0 is one too small, and just enough. */
    private static void needs(String what, CostChecker x, int steps) {
        x.base(0, 0, 0, steps - 1);
        due(what + ": one too small", x.check(0), 9);
        x.base(0, 0, 0, steps);
        due(what + ": just enough", x.check(0), 0);
    }

    /** Claims of a cut of method 0, each written as its three numbers. */
    private static CostChecker claims(CostChecker x, int place, int... claims) {
        for (int i = 0; i + 2 < claims.length; i += 3) {
            if (!x.claim(0, place, claims[i], claims[i + 1], claims[i + 2])) {
                throw new IllegalStateException("the test's own claim is refused");
            }
        }
        return x;
    }

    private static void methods() {
        CostChecker x = new CostChecker();
        due("check: method -1", x.check(-1), -1);
        due("check: method 4", x.check(4), -1);
        due("check: no instructions", x.check(3), 2);
        x.base(3, 0, 0, -5);
        due("check: no instructions, whatever the potential", x.check(3), 2);
        needs("two steps", Dues.with(Dues.PUSH, 0, Dues.RETURN, 0), 2);
    }

    private static void contradicted() {
        CostChecker x = claims(Dues.with(Dues.DROP, 0), 0, 0, 1, -3, 1, 0, 2);
        x.base(0, 0, 0, -9);
        due("contradicted: nothing goes wrong", x.check(0), 0);
        DUES.due("contradicted: accepted", x.accepted(0), true);
        due("contradicted: no bound", x.bound(0, 0, 0, 0, 0), -1);
        CostChecker just = claims(Dues.with(Dues.DROP, 0), 0, 0, 1, -3, 1, 0, 3);
        due("not contradicted by 0", just.check(0), 2);
        CostChecker ring = claims(Dues.with(Dues.DROP, 0), 0, 0, 1, 5, 1, 2, -9, 2, 3, 1, 3, 4, 1, 4, 0, 1);
        due("contradicted by a ring of five", ring.check(0), 0);
        CostChecker later = claims(Dues.with(Dues.PUSH, 0, Dues.RETURN, 0), 0);
        later.base(0, 0, 0, 2);
        later.cut(0, 20);
        due("a cut at a place that is not there", later.check(0), 2002);
        claims(later, 20, 2, 4, -1, 4, 2, 0);
        due("the same, contradicted", later.check(0), 0);
    }

    private static void negative() {
        CostChecker x = Dues.with(Dues.PUSH, 0, Dues.RETURN, 0);
        x.base(0, 0, 0, -1);
        due("negative: base", x.check(0), 1);
        x.base(0, 0, 0, 2);
        x.base(0, 0, 1, -1);
        due("negative: base of words", x.check(0), 1);
        x.base(0, 0, 1, 0);
        due("negative: none", x.check(0), 0);
        x.term(0, 0, 0, 3, Dues.side(0, 1));
        due("negative: no least", x.check(0), 1);
        claims(x, 0, 0, 1, 5);
        due("negative: the bound of the other direction", x.check(0), 1);
        claims(x, 0, 1, 0, 4);
        due("negative: least is -4", x.check(0), 1);
        x.base(0, 0, 0, 11);
        due("negative: -1", x.check(0), 1);
        x.base(0, 0, 0, 12);
        due("negative: 0, but that is too little", x.check(0), 9);
        x.base(0, 0, 0, 14);
        due("negative: enough", x.check(0), 0);
        CostChecker apart = Dues.with(Dues.PUSH, 0, Dues.RETURN, 0);
        apart.base(0, 0, 0, 100);
        apart.term(0, 0, 0, 1, Dues.side(0, 1));
        apart.term(0, 0, 0, 1, Dues.side(1, 0));
        due("negative: terms are taken by themselves", apart.check(0), 1);
        CostChecker words = Dues.with(Dues.PUSH, 0, Dues.RETURN, 0);
        words.base(0, 0, 0, 2);
        words.term(0, 0, 1, 1, Dues.side(2, 4));
        due("negative: words without least", words.check(0), 1);
        claims(words, 0, 4, 2, 1);
        due("negative: words of -1", words.check(0), 1);
        words.base(0, 0, 1, 1);
        due("negative: words of 0", words.check(0), 0);
        CostChecker second = Dues.with(Dues.GOTO, 1, Dues.PUSH, 0, Dues.RETURN, 0);
        second.base(0, 0, 0, 9);
        second.cut(0, 1);
        second.base(0, 1, 0, -1);
        due("negative at a second cut", second.check(0), 101);
    }

    private static void chains() {
        CostChecker x = Dues.with(Dues.PUSH, 0, Dues.RETURN, 0);
        x.base(0, 0, 0, 2);
        x.term(0, 0, 0, 1, Dues.side(4, 0));
        claims(x, 0, 0, 1, 3, 1, 2, -2, 2, 3, 4);
        due("chain: it stops before side 4", x.check(0), 1);
        claims(x, 0, 3, 4, -5);
        due("chain: of four claims", x.check(0), 0);
        claims(x, 0, 0, 4, 7);
        due("chain: a greater claim does no harm", x.check(0), 0);
        CostChecker y = Dues.with(Dues.PUSH, 0, Dues.RETURN, 0);
        y.base(0, 0, 0, 2);
        y.term(0, 0, 0, 1, Dues.side(4, 0));
        claims(y, 0, 0, 1, 3, 1, 2, -2, 2, 3, 4, 3, 4, -4, 0, 4, 7);
        due("chain: its sum is 1", y.check(0), 9);
        claims(y, 0, 0, 4, 0);
        due("chain: another is less", y.check(0), 0);
        // Whatever order the claims of a chain come in: 0 - 1 <= 2, 1 - 2 <= 3, 2 - 4 <= -5.
        int[][] orders = {{0, 1, 2}, {0, 2, 1}, {1, 0, 2}, {1, 2, 0}, {2, 0, 1}, {2, 1, 0}};
        int[][] chain = {{0, 1, 2}, {1, 2, 3}, {2, 4, -5}};
        for (int[] order : orders) {
            CostChecker z = Dues.with(Dues.PUSH, 0, Dues.RETURN, 0);
            z.term(0, 0, 0, 1, Dues.side(4, 0));
            for (int i : order) {
                claims(z, 0, chain[i]);
            }
            needs("chain in the order " + order[0] + order[1] + order[2], z, 2);
            claims(z, 0, 3, 0, -900);
            needs("a side of which nothing is bounded from above", z, 2);
            z.term(0, 0, 0, 1, Dues.side(0, 3));
            z.base(0, 0, 0, 2);
            due("a side above", z.check(0), 0);
            z.term(0, 0, 0, 1, Dues.side(3, 0));
            due("no bound from the other direction", z.check(0), 1);
        }
    }

    /**
     * The claim at a cut is that local 3 - side is at most c, behind instructions that bring a symbol
     * into local 3 and leave that side as it was; whether it follows tells which symbol that is.
     */
    private static int symbolCheck(int side, int c, int... code) {
        CostChecker x = new CostChecker();
        Dues.write(x, 0, code);
        int places = code.length / 2;
        Dues.write(x, 0, Dues.STORE, 3, Dues.PUSH, 0, Dues.RETURN, 0);
        x.base(0, 0, 0, 100);
        x.cut(0, places + 1);
        x.base(0, places + 1, 0, 2);
        x.claim(0, places + 1, 3, side, c);
        return x.check(0);
    }

    /** Asks that local 3 becomes just this side + this number. */
    private static void isSymbol(String what, int side, int number, int... code) {
        due(what + ": at most", symbolCheck(side, number, code), 0);
        due(what + ": not less", symbolCheck(side, number - 1, code), 8);
    }

    private static void isNothing(String what, int... code) {
        for (int side = 0; side < 5; side++) {
            if (side != 3) {
                due(what + ": nothing about side " + side, symbolCheck(side, 1000, code), 8);
            }
        }
    }

    private static void symbols() {
        isSymbol("PUSH", 4, 7, Dues.PUSH, 7);
        isSymbol("LOAD", 1, 0, Dues.LOAD, 1);
        isSymbol("STORE and LOAD", 2, 0, Dues.LOAD, 2, Dues.STORE, 0, Dues.LOAD, 0);
        isSymbol("UP", 0, 7, Dues.UP, 5, Dues.UP, 2, Dues.LOAD, 0, Dues.UP, -7);
        isSymbol("UP 1", 1, -7, Dues.UP_1, -7, Dues.LOAD, 1, Dues.UP_1, 7);
        isSymbol("ADD of a number", 0, 5, Dues.LOAD, 0, Dues.PUSH, 5, Dues.ADD, 0);
        isSymbol("ADD to a number", 0, 5, Dues.PUSH, 5, Dues.LOAD, 0, Dues.ADD, 0);
        isSymbol("ADD of numbers", 4, 8, Dues.PUSH, 5, Dues.PUSH, 3, Dues.ADD, 0);
        isNothing("ADD of two sides", Dues.LOAD, 0, Dues.LOAD, 1, Dues.ADD, 0);
        isNothing("ADD of a side to itself", Dues.LOAD, 0, Dues.LOAD, 0, Dues.ADD, 0);
        isSymbol("SUB of a number", 0, -5, Dues.LOAD, 0, Dues.PUSH, 5, Dues.SUB, 0);
        isSymbol("SUB of numbers", 4, 2, Dues.PUSH, 5, Dues.PUSH, 3, Dues.SUB, 0);
        isSymbol("SUB of a side from itself", 4, -4, Dues.LOAD, 0, Dues.UP, 4, Dues.LOAD, 0, Dues.SUB, 0);
        isNothing("SUB from a number", Dues.PUSH, 5, Dues.LOAD, 0, Dues.SUB, 0);
        isNothing("SUB of two sides", Dues.LOAD, 0, Dues.LOAD, 1, Dues.SUB, 0);
        isNothing("READ", Dues.READ, 0);
        isNothing("READ and ADD", Dues.READ, 0, Dues.PUSH, 1, Dues.ADD, 0);
        isNothing("ADD to READ", Dues.PUSH, 1, Dues.READ, 0, Dues.ADD, 0);
        isNothing("READ and SUB", Dues.READ, 0, Dues.PUSH, 1, Dues.SUB, 0);
        isNothing("SUB of READ", Dues.PUSH, 1, Dues.READ, 0, Dues.SUB, 0);
        isNothing("SUB of READ from READ", Dues.READ, 0, Dues.READ, 0, Dues.SUB, 0);
        isNothing("NOTHING stays", Dues.READ, 0, Dues.STORE, 0, Dues.UP, 1, Dues.LOAD, 0);
        isSymbol("DROP", 4, 7, Dues.PUSH, 7, Dues.READ, 0, Dues.DROP, 0);
        isSymbol("local 3 at first", 0, 4, Dues.LOAD, 3, Dues.STORE, 0, Dues.LOAD, 3, Dues.PUSH, 4, Dues.ADD, 0);
    }

    private static void partings() {
        // Behind IFLESS is x >= y, at its place x < y; a wrong place tells which path was followed.
        CostChecker x = Dues.with(Dues.LOAD, 0, Dues.LOAD, 1, Dues.IFLESS, 5, Dues.PUSH, 0, Dues.RETURN, 0, Dues.DROP, 0);
        x.base(0, 0, 0, 5);
        due("IFLESS: its place is followed", x.check(0), 2);
        claims(x, 0, 1, 0, 0);
        due("IFLESS: left out when x >= y", x.check(0), 0);
        CostChecker y = Dues.with(Dues.LOAD, 0, Dues.LOAD, 1, Dues.IFNOT, 5, Dues.PUSH, 0, Dues.RETURN, 0, Dues.DROP, 0);
        y.base(0, 0, 0, 5);
        claims(y, 0, 0, 1, 0);
        due("IFNOT: x may still be y", y.check(0), 2);
        claims(y, 0, 0, 1, -1);
        due("IFNOT: left out when x < y", y.check(0), 0);
        CostChecker behind = Dues.with(Dues.LOAD, 0, Dues.LOAD, 1, Dues.IFNOT, 4, Dues.DROP, 0, Dues.PUSH, 0, Dues.RETURN, 0);
        behind.base(0, 0, 0, 5);
        claims(behind, 0, 1, 0, 1);
        due("IFNOT: behind it is followed", behind.check(0), 2);
        claims(behind, 0, 1, 0, 0);
        due("IFNOT: behind it left out when x >= y", behind.check(0), 0);
        CostChecker numbers = Dues.with(Dues.LOAD, 0, Dues.PUSH, 3, Dues.ADD, 0, Dues.LOAD, 1, Dues.PUSH, 1, Dues.SUB, 0,
            Dues.IFLESS, 9, Dues.PUSH, 0, Dues.RETURN, 0, Dues.DROP, 0);
        numbers.base(0, 0, 0, 9);
        claims(numbers, 0, 1, 0, 5);
        due("numbers are brought to the right: x + 3 < y - 1 may be", numbers.check(0), 2);
        claims(numbers, 0, 1, 0, 4);
        due("numbers are brought to the right: left out", numbers.check(0), 0);
        CostChecker same = Dues.with(Dues.LOAD, 0, Dues.LOAD, 0, Dues.IFLESS, 5, Dues.PUSH, 0, Dues.RETURN, 0, Dues.DROP, 0);
        same.base(0, 0, 0, 5);
        due("a side is not less than itself", same.check(0), 0);
        CostChecker up = Dues.with(Dues.LOAD, 0, Dues.UP, 1, Dues.LOAD, 0, Dues.IFLESS, 5, Dues.DROP, 0, Dues.PUSH, 0, Dues.RETURN, 0);
        up.base(0, 0, 0, 6);
        due("a side is less than itself + 1", up.check(0), 0);
        CostChecker nothing = Dues.with(Dues.READ, 0, Dues.STORE, 0, Dues.LOAD, 0, Dues.LOAD, 0, Dues.IFLESS, 7,
            Dues.PUSH, 0, Dues.RETURN, 0, Dues.DROP, 0);
        nothing.base(0, 0, 0, 7);
        due("of NOTHING both are followed", nothing.check(0), 2);
        CostChecker deep = Dues.with(Dues.PUSH, 9, Dues.LOAD, 0, Dues.LOAD, 1, Dues.IFLESS, 4, Dues.RETURN, 0);
        needs("a parting takes just two values", deep, 5);
        CostChecker both = Dues.with(Dues.PUSH, 9, Dues.PUSH, 9, Dues.LOAD, 0, Dues.LOAD, 1, Dues.IFNOT, 5,
            Dues.ADD, 0, Dues.NEW, 0, Dues.PUSH, 0, Dues.RETURN, 0);
        both.base(0, 0, 1, 20);
        needs("and leaves those below as they are", both, 9);
        both.base(0, 0, 1, 19);
        due("and leaves those below as they are, on both paths", both.check(0), 9);
        partingsAddUp();
    }

    private static void partingsAddUp() {
        // 0 <= local 0 is asked, then local 0 < 5: at the NEW both are known.
        CostChecker x = Dues.with(Dues.LOAD, 0, Dues.PUSH, 0, Dues.IFLESS, 8, Dues.LOAD, 0, Dues.PUSH, 5, Dues.IFNOT, 8,
            Dues.LOAD, 0, Dues.NEW, 0, Dues.PUSH, 0, Dues.RETURN, 0);
        x.base(0, 0, 0, 10);
        x.base(0, 0, 1, 5);
        due("what is found on a path adds up: too little", x.check(0), 9);
        x.base(0, 0, 1, 6);
        due("what is found on a path adds up", x.check(0), 0);
        // What is found on the path behind does not hold on the other one.
        CostChecker y = Dues.with(Dues.LOAD, 0, Dues.PUSH, 0, Dues.IFNOT, 3, Dues.LOAD, 0, Dues.NEW, 0, Dues.PUSH, 0, Dues.RETURN, 0);
        y.base(0, 0, 0, 10);
        y.base(0, 0, 1, 1000);
        due("the path behind is less than 0", y.check(0), 5);
        CostChecker z = Dues.with(Dues.LOAD, 0, Dues.PUSH, 0, Dues.IFLESS, 3, Dues.LOAD, 0, Dues.PUSH, 7, Dues.IFNOT, 8,
            Dues.LOAD, 0, Dues.NEW, 0, Dues.PUSH, 0, Dues.RETURN, 0);
        z.base(0, 0, 0, 10);
        z.base(0, 0, 1, 8);
        due("then the path at the place", z.check(0), 5);
    }

    private static void cramped() {
        due("cramped: too few", Dues.with(Dues.PUSH, 1, Dues.ADD, 0).check(0), 2);
        due("cramped: a local", Dues.with(Dues.LOAD, 4).check(0), 2);
        due("cramped: RETURN", Dues.with(Dues.RETURN, 0).check(0), 2);
        due("cramped: behind the last", Dues.with(Dues.PUSH, 1).check(0), 2);
        due("cramped: GOTO -3", Dues.with(Dues.GOTO, -3).check(0), 2);
        due("cramped: CALL of itself",
            Dues.with(Dues.PUSH, 0, Dues.PUSH, 0, Dues.PUSH, 0, Dues.CALL, 0, Dues.RETURN, 0).check(0), 2);
        CostChecker seven = new CostChecker();
        for (int i = 0; i < 7; i++) {
            seven.put(0, Dues.READ, 0);
        }
        seven.put(0, Dues.RETURN, 0);
        due("cramped: seven values", seven.check(0), 2);
        needs("six values", Dues.with(Dues.PUSH, 0, Dues.PUSH, 0, Dues.PUSH, 0, Dues.PUSH, 0, Dues.PUSH, 0, Dues.PUSH, 0,
            Dues.RETURN, 0), 7);
        CostChecker cut = Dues.with(Dues.PUSH, 1, Dues.DROP, 0);
        cut.cut(0, 2);
        cut.base(0, 0, 0, 2);
        due("cramped: a cut at a place that is not there is no end", cut.check(0), 2);
        CostChecker nothing = Dues.with(Dues.LOAD, 0, Dues.LOAD, 1, Dues.IFLESS, 5, Dues.PUSH, 0, Dues.RETURN, 0);
        nothing.base(0, 0, 0, 9);
        due("cramped: a branch to a place that is not there", nothing.check(0), 2);
        claims(nothing, 0, 1, 0, 0);
        due("cramped: not when that is left out", nothing.check(0), 0);
        CostChecker trap = Dues.with(Dues.PUSH, 1000, Dues.STORE, 0);
        for (int i = 0; i < 5; i++) {
            Dues.write(trap, 0, Dues.LOAD, 0, Dues.LOAD, 0, Dues.ADD, 0, Dues.STORE, 0);
        }
        Dues.write(trap, 0, Dues.PUSH, 0, Dues.RETURN, 0);
        needs("a TRAP does not count", trap, 24);
    }

    /** A loop of 4 that is not cut, passed a given number of times, and then so many instructions more. */
    private static CostChecker rounds(int rounds, int before, int more) {
        CostChecker x = new CostChecker();
        for (int i = 0; i < before; i++) {
            x.put(0, Dues.UP_1, 0);
        }
        Dues.write(x, 0, Dues.UP, 1, Dues.LOAD, 0, Dues.PUSH, rounds, Dues.IFLESS, before);
        for (int i = 0; i < more; i++) {
            x.put(0, Dues.UP_1, 0);
        }
        Dues.write(x, 0, Dues.PUSH, 0, Dues.RETURN, 0);
        return claims(x, 0, 0, 4, 0, 4, 0, 0);
    }

    private static void uncut() {
        // The cut at 0 ends each path that comes to it: one instruction before the loop is needed.
        needs("39 instructions", rounds(9, 1, 0), 39);
        needs("40 instructions", rounds(9, 1, 1), 40);
        CostChecker more = rounds(9, 1, 2);
        more.base(0, 0, 0, 100);
        due("uncut: 41 instructions", more.check(0), 3);
        CostChecker cut = rounds(9, 1, 2);
        cut.base(0, 0, 0, 100);
        cut.cut(0, 8);
        cut.base(0, 8, 0, 1);
        cut.claim(0, 8, 4, 0, 0);
        due("uncut: a cut behind 40 with a value on the stack", cut.check(0), 7);
        CostChecker there = new CostChecker();
        Dues.write(there, 0, Dues.UP_1, 0, Dues.UP, 1, Dues.LOAD, 0, Dues.PUSH, 9, Dues.IFLESS, 1,
            Dues.UP_1, 0, Dues.UP_1, 0, Dues.UP_1, 0);
        claims(there, 0, 0, 4, 0, 4, 0, 0);
        there.base(0, 0, 0, 42);
        due("cramped: a place that is not there behind 40", there.check(0), 2);
        Dues.write(there, 0, Dues.LOAD, 77);
        due("uncut: an instruction that is cramped behind 40", there.check(0), 3);
        there.cut(0, 8);
        there.base(0, 8, 0, 2);
        due("uncut: not before a cut, which has its own path", there.check(0), 802);
        due("uncut: GOTO 1", loops().check(0), 3);
        partingsThatStandOpen();
    }

    /** Twice through five partings on READ, each of which may leave, and one that counts. */
    private static void partingsThatStandOpen() {
        CostChecker x = new CostChecker();
        Dues.write(x, 0, Dues.GOTO, 1, Dues.UP, 1);
        for (int i = 0; i < 5; i++) {
            Dues.write(x, 0, Dues.READ, 0, Dues.READ, 0, Dues.IFLESS, 20);
        }
        Dues.write(x, 0, Dues.LOAD, 0, Dues.PUSH, 2, Dues.IFLESS, 1, Dues.PUSH, 0, Dues.RETURN, 0);
        claims(x, 0, 0, 4, 0, 4, 0, 0);
        x.base(0, 0, 0, 50);
        due("uncut: 41 instructions with 12 partings", x.check(0), 3);
        x.cut(0, 20);
        x.base(0, 20, 0, 2);
        needs("39 instructions with 12 partings, and a cut", x, 41);
    }

    private static CostChecker loops() {
        CostChecker x = Dues.with(Dues.PUSH, 0, Dues.GOTO, 1);
        x.base(0, 0, 0, 1000);
        return x;
    }

    /** Partings on READ at 0, 3, .., each with the place it goes to; then RETURN. */
    private static CostChecker chain(int... places) {
        CostChecker x = new CostChecker();
        for (int place : places) {
            Dues.write(x, 0, Dues.READ, 0, Dues.PUSH, 0, Dues.IFLESS, place);
        }
        Dues.write(x, 0, Dues.PUSH, 0, Dues.RETURN, 0);
        x.base(0, 0, 0, 100);
        return x;
    }

    private static void many() {
        needs("32 paths", chain(3, 6, 9, 12, 15), 17);
        due("many: 64 paths", chain(3, 6, 9, 12, 15, 18).check(0), 4);
        // The paths from each place: 18: 2, 15: 4, 12: 8, 9: 16, 6: 16 + 1, 3: 17 + 16, 0: 33 + 17.
        due("50 paths", chain(6, 9, 21, 12, 15, 18, 21).check(0), 0);
        // The same, but 3: 17 + 17, 0: 34 + 17.
        due("many: 51 paths", chain(6, 6, 21, 12, 15, 18, 21).check(0), 4);
        CostChecker two = chain(6, 9, 21, 12, 15, 18, 21);
        two.cut(0, 3);
        two.base(0, 3, 0, 90);
        due("each cut has its own paths", two.check(0), 0);
        CostChecker dear = chain(6, 6, 21, 12, 15, 18, 21);
        dear.base(0, 0, 0, 0);
        due("cost of the first path", dear.check(0), 9);
        leftOut();
        manyBeforeOthers();
    }

    /** 32 paths end and 32 are left out. */
    private static void leftOut() {
        CostChecker x = new CostChecker();
        for (int i = 0; i < 5; i++) {
            Dues.write(x, 0, Dues.READ, 0, Dues.PUSH, 0, Dues.IFLESS, 3 * i + 3);
        }
        Dues.write(x, 0, Dues.LOAD, 0, Dues.LOAD, 0, Dues.IFLESS, 99, Dues.PUSH, 0, Dues.RETURN, 0);
        x.base(0, 0, 0, 100);
        due("paths left out do not count", x.check(0), 0);
    }

    /**
     * 64 paths to a cut, on which local 0 grows by 31, 31, 30, 30, .. : its claim is right for so many
     * of the first ones as it allows.
     */
    private static CostChecker falling(int least) {
        CostChecker x = new CostChecker();
        for (int i = 0; i < 5; i++) {
            Dues.write(x, 0, Dues.READ, 0, Dues.READ, 0, Dues.IFLESS, 4 * i + 4, Dues.UP, 16 >> i);
        }
        Dues.write(x, 0, Dues.READ, 0, Dues.READ, 0, Dues.IFLESS, 23, Dues.DROP, 0);
        x.base(0, 0, 0, 100);
        x.cut(0, 23);
        claims(x, 0, 4, 0, 0);
        return claims(x, 23, 4, 0, -least);
    }

    private static void manyBeforeOthers() {
        due("claim: wrong on path 49", falling(8).check(0), 8);
        due("many: on path 51, before its wrong claim", falling(7).check(0), 4);
    }

    private static void width() {
        CostChecker x = Dues.with(Dues.LOAD, 0, Dues.PUSH, 3, Dues.SUB, 0, Dues.NEW, 0, Dues.PUSH, 0, Dues.RETURN, 0);
        x.base(0, 0, 0, 6);
        x.term(0, 0, 1, 1, Dues.side(0, 4));
        x.base(0, 0, 1, 1000);
        claims(x, 0, 4, 0, 1);
        due("width: -1 - 3", x.check(0), 5);
        claims(x, 0, 4, 0, -2);
        due("width: 2 - 3", x.check(0), 5);
        claims(x, 0, 4, 0, -3);
        due("width: 3 - 3", x.check(0), 0);
        due("width: words", x.bound(0, 1, 9, 0, 0), 1009);
        x.base(0, 0, 1, -1);
        due("width: w + 2, that is x - 1", x.check(0), 0);
        x.base(0, 0, 1, -2);
        due("width: x - 2 is too little", x.check(0), 9);
        CostChecker read = Dues.with(Dues.READ, 0, Dues.NEW, 0, Dues.PUSH, 0, Dues.RETURN, 0);
        read.base(0, 0, 0, 9);
        due("width: NOTHING", read.check(0), 5);
        CostChecker free = Dues.with(Dues.LOAD, 2, Dues.NEW, 0, Dues.PUSH, 0, Dues.RETURN, 0);
        free.base(0, 0, 0, 9);
        due("width: no least", free.check(0), 5);
        claims(free, 0, 2, 4, 9);
        due("width: a bound is no least", free.check(0), 5);
        CostChecker number = Dues.with(Dues.PUSH, 0, Dues.NEW, 0, Dues.PUSH, 0, Dues.RETURN, 0);
        number.base(0, 0, 0, 4);
        number.base(0, 0, 1, 2);
        due("width: 0", number.check(0), 0);
        CostChecker two = Dues.with(Dues.PUSH, 5, Dues.PUSH, 0, Dues.NEW, 0, Dues.NEW, 0, Dues.PUSH, 0, Dues.RETURN, 0);
        two.base(0, 0, 1, 9);
        needs("width: NEW takes one value", two, 6);
        CostChecker below = Dues.with(Dues.PUSH, -1, Dues.NEW, 0, Dues.PUSH, 0, Dues.RETURN, 0);
        below.base(0, 0, 0, 4);
        due("width: -1", below.check(0), 5);
        due("width: before the place that is not there", Dues.with(Dues.PUSH, -1, Dues.NEW, 0).check(0), 5);
        due("the place that is not there", Dues.with(Dues.PUSH, 1, Dues.NEW, 0).check(0), 2);
        due("cramped before width", Dues.with(Dues.NEW, 0).check(0), 2);
    }

    /** Method 0 returns; method 1 calls it with what three instructions put on the stack. */
    private static CostChecker calling(int... arguments) {
        CostChecker x = Dues.with(Dues.PUSH, 0, Dues.RETURN, 0);
        x.base(0, 0, 0, 2);
        Dues.write(x, 1, arguments);
        Dues.write(x, 1, Dues.CALL, 0, Dues.RETURN, 0);
        x.base(1, 0, 0, 100);
        x.base(1, 0, 1, 100);
        return x;
    }

    private static void called() {
        CostChecker x = calling(Dues.PUSH, 0, Dues.PUSH, 0, Dues.PUSH, 0);
        due("called: not accepted", x.check(1), 6);
        x.check(0);
        due("called: accepted", x.check(1), 0);
        x.base(0, 0, 0, 1);
        x.check(0);
        due("called: wrong", x.check(1), 6);
        CostChecker none = calling(Dues.PUSH, 0, Dues.PUSH, 0, Dues.PUSH, 0);
        none.clear(0);
        due("called: without instructions it is cramped", none.check(1), 2);
        CostChecker few = calling(Dues.PUSH, 0, Dues.PUSH, 0);
        due("called: too few values are cramped", few.check(1), 2);
        CostChecker last = Dues.with(Dues.PUSH, 0, Dues.RETURN, 0);
        last.base(0, 0, 0, 2);
        Dues.write(last, 1, Dues.PUSH, 0, Dues.PUSH, 0, Dues.PUSH, 0, Dues.CALL, 0);
        due("called: before the place that is not there", last.check(1), 6);
        last.check(0);
        due("called: then the place that is not there", last.check(1), 2);
    }

    private static void calledWithSymbols() {
        CostChecker read = calling(Dues.READ, 0, Dues.READ, 0, Dues.READ, 0);
        read.check(0);
        due("called: NOTHING of which nothing is said", read.check(1), 0);
        CostChecker said = calling(Dues.PUSH, 0, Dues.READ, 0, Dues.PUSH, 0);
        said.claim(0, 0, 0, 2, 0);
        said.check(0);
        due("called: claims on other arguments", said.check(1), 0);
        said.claim(0, 0, 1, 4, 1000);
        said.check(0);
        due("called: a claim on NOTHING", said.check(1), 6);
        CostChecker term = calling(Dues.PUSH, 0, Dues.LOAD, 1, Dues.PUSH, 0);
        term.claim(0, 0, 4, 0, 0);
        term.term(0, 0, 1, 1, Dues.side(0, 4));
        due("called: itself well", term.check(0), 0);
        due("called: a term on a symbol", term.check(1), 0);
        CostChecker terms = calling(Dues.PUSH, 0, Dues.READ, 0, Dues.PUSH, 0);
        terms.claim(0, 0, 0, 1, -1);
        terms.claim(0, 0, 1, 0, 0);
        terms.term(0, 0, 1, 1, Dues.side(1, 2));
        due("called: contradicted and accepted", terms.check(0), 0);
        due("called: its claims can't follow", terms.check(1), 6);
        CostChecker follows = calling(Dues.LOAD, 2, Dues.LOAD, 1, Dues.PUSH, 5, Dues.ADD, 0, Dues.LOAD, 0);
        follows.claim(0, 0, 0, 1, -7);
        follows.check(0);
        follows.claim(1, 0, 2, 1, -1);
        due("called: z - (y + 5) <= -7 does not follow", follows.check(1), 6);
        follows.claim(1, 0, 2, 1, -2);
        due("called: it follows", follows.check(1), 0);
        local3();
        termOfNothing();
    }

    private static void local3() {
        CostChecker x = calling(Dues.PUSH, 5, Dues.PUSH, 0, Dues.PUSH, 0);
        x.claim(0, 0, 3, 4, 0);
        x.claim(0, 0, 3, 0, -5);
        x.check(0);
        due("called: local 3 is 0", x.check(1), 0);
        x.claim(0, 0, 3, 0, -6);
        x.check(0);
        due("called: local 3 is not less", x.check(1), 6);
        CostChecker y = calling(Dues.PUSH, 0, Dues.PUSH, 0, Dues.PUSH, 0);
        y.claim(0, 0, 3, 4, -1);
        y.check(0);
        due("called: 0 is not at most -1", y.check(1), 6);
    }

    private static void termOfNothing() {
        // Its potential speaks of y, which its claims do not: the least is there by a chain over y.
        CostChecker x = Dues.with(Dues.PUSH, 0, Dues.RETURN, 0);
        x.base(0, 0, 0, 2);
        x.claim(0, 0, 4, 1, 0);
        x.term(0, 0, 0, 1, Dues.side(1, 4));
        x.check(0);
        Dues.write(x, 1, Dues.PUSH, 0, Dues.READ, 0, Dues.PUSH, 0, Dues.CALL, 0, Dues.RETURN, 0);
        x.base(1, 0, 0, 1000);
        due("called: claim and term on NOTHING", x.check(1), 6);
    }

    private static void stack() {
        CostChecker x = Dues.with(Dues.PUSH, 1, Dues.PUSH, 0, Dues.RETURN, 0);
        needs("a RETURN with more values", x, 3);
        x.cut(0, 1);
        due("stack: a cut with a value", x.check(0), 7);
        CostChecker claims = Dues.with(Dues.PUSH, 1, Dues.GOTO, 0);
        claims.claim(0, 0, 0, 1, 0);
        due("stack: before claim and cost", claims.check(0), 7);
    }

    private static void claim() {
        CostChecker x = Dues.with(Dues.UP, 1, Dues.GOTO, 3, Dues.DROP, 0, Dues.PUSH, 0, Dues.RETURN, 0);
        x.base(0, 0, 0, 4);
        x.cut(0, 3);
        x.base(0, 3, 0, 2);
        due("claim: none", x.check(0), 0);
        x.claim(0, 3, 0, 1, 5);
        due("claim: does not follow", x.check(0), 8);
        x.claim(0, 0, 0, 1, 5);
        due("claim: 6 is more than 5", x.check(0), 8);
        x.claim(0, 0, 0, 1, 4);
        due("claim: 5", x.check(0), 0);
        x.base(0, 0, 0, 0);
        due("claim: then cost", x.check(0), 9);
        x.claim(0, 3, 0, 1, 4);
        due("claim: before cost", x.check(0), 8);
        CostChecker same = Dues.with(Dues.LOAD, 0, Dues.STORE, 1, Dues.UP_1, 2, Dues.PUSH, 0, Dues.RETURN, 0);
        same.base(0, 0, 0, 5);
        same.cut(0, 3);
        same.base(0, 3, 0, 2);
        same.claim(0, 3, 1, 0, 2);
        due("claim: on the same side", same.check(0), 0);
        same.claim(0, 3, 1, 0, 1);
        due("claim: on the same side, too little", same.check(0), 8);
        CostChecker impossible = Dues.with(Dues.UP, 1, Dues.PUSH, 0, Dues.RETURN, 0);
        impossible.base(0, 0, 0, 9);
        impossible.cut(0, 1);
        impossible.claim(0, 1, 0, 1, -1);
        impossible.claim(0, 1, 1, 0, -1);
        due("claim: contradicted ones do not follow", impossible.check(0), 8);
    }

    private static void cost() {
        // for (; local 0 < local 1; local 0++): 5 steps a round, 5 at the end.
        CostChecker x = Dues.with(Dues.LOAD, 0, Dues.LOAD, 1, Dues.IFNOT, 5, Dues.UP, 1, Dues.GOTO, 0,
            Dues.LOAD, 0, Dues.RETURN, 0);
        claims(x, 0, 0, 1, 0);
        x.base(0, 0, 0, 5);
        x.term(0, 0, 0, 4, Dues.side(1, 0));
        due("cost: 4 a round", x.check(0), 9);
        x.term(0, 0, 0, 1, Dues.side(1, 0));
        due("cost: 4 and 1 a round", x.check(0), 0);
        due("cost: bound", x.bound(0, 0, 3, 10, 0), 40);
        x.term(0, 0, 0, 1, Dues.side(1, 0));
        due("cost: 6 a round", x.check(0), 0);
        x.base(0, 0, 0, 4);
        due("cost: 4 at the end", x.check(0), 9);
        oppositeTerms();
        endOfNothing();
        boundNeeded();
        wordsOfCost();
    }

    private static void oppositeTerms() {
        // At the end, local 0 and 1 have changed places: the terms cancel out without any bound.
        CostChecker x = Dues.with(Dues.LOAD, 0, Dues.LOAD, 1, Dues.STORE, 0, Dues.STORE, 1, Dues.PUSH, 0, Dues.RETURN, 0);
        x.cut(0, 4);
        x.base(0, 0, 0, 6);
        x.term(0, 0, 0, 3, Dues.side(0, 1));
        x.base(0, 4, 0, 2);
        x.term(0, 4, 0, 3, Dues.side(1, 0));
        claims(x, 0, 1, 0, 0);
        claims(x, 4, 0, 1, 0);
        due("cost: opposite terms are added up", x.check(0), 0);
        x.base(0, 4, 0, 3);
        due("cost: and nothing is left", x.check(0), 9);
    }

    private static void endOfNothing() {
        CostChecker x = Dues.with(Dues.READ, 0, Dues.STORE, 0, Dues.PUSH, 0, Dues.RETURN, 0);
        x.cut(0, 2);
        x.base(0, 0, 0, 1000);
        x.base(0, 2, 0, 1000 - 2);
        due("cost: no term on NOTHING", x.check(0), 0);
        x.claim(0, 2, 0, 1, 0);
        x.claim(0, 2, 1, 0, 0);
        due("claim: on NOTHING", x.check(0), 8);
        CostChecker y = Dues.with(Dues.READ, 0, Dues.STORE, 0, Dues.PUSH, 0, Dues.RETURN, 0);
        y.cut(0, 2);
        y.base(0, 0, 0, 1000);
        y.base(0, 2, 0, 2);
        y.base(0, 2, 1, 500);
        y.term(0, 2, 1, 1, Dues.side(0, 1));
        due("cost: a term on NOTHING", y.check(0), 9);
    }

    private static void boundNeeded() {
        // The end has more of 0 - 1 than the beginning: its bound is needed.
        CostChecker x = Dues.with(Dues.UP_1, 0, Dues.PUSH, 0, Dues.RETURN, 0);
        x.cut(0, 1);
        x.base(0, 0, 0, 20);
        x.base(0, 1, 0, 2);
        x.term(0, 1, 0, 2, Dues.side(0, 1));
        claims(x, 1, 1, 0, 0);
        claims(x, 0, 1, 0, 0);
        due("cost: a bound that is not there", x.check(0), 9);
        claims(x, 0, 0, 1, 9);
        due("cost: 20 is not 1 + 2 + 18", x.check(0), 9);
        x.base(0, 0, 0, 21);
        due("cost: 21 is", x.check(0), 0);
        // The beginning has more of 0 - 1 than is paid: its least counts.
        CostChecker y = Dues.with(Dues.PUSH, 0, Dues.RETURN, 0);
        y.term(0, 0, 0, 2, Dues.side(0, 1));
        claims(y, 0, 1, 0, 0);
        due("cost: least is 0", y.check(0), 9);
        claims(y, 0, 1, 0, -1);
        due("cost: least is 2 * 1", y.check(0), 0);
        CostChecker z = Dues.with(Dues.PUSH, 0, Dues.RETURN, 0);
        z.term(0, 0, 0, 1, Dues.side(0, 1));
        claims(z, 0, 1, 0, -1);
        due("cost: least is 1", z.check(0), 9);
        claims(z, 0, 1, 0, -2);
        due("cost: least is 2", z.check(0), 0);
    }

    private static void wordsOfCost() {
        CostChecker x = Dues.with(Dues.PUSH, 3, Dues.NEW, 0, Dues.PUSH, 4, Dues.NEW, 0, Dues.PUSH, 0, Dues.RETURN, 0);
        x.base(0, 0, 0, 6);
        x.base(0, 0, 1, 10);
        due("cost: 5 and 6 words", x.check(0), 9);
        x.base(0, 0, 1, 11);
        due("cost: 11 words", x.check(0), 0);
        x.base(0, 0, 0, 5);
        due("cost: words do not pay for steps", x.check(0), 9);
        // Words of the end: the NEW takes local 0, the cut keeps 3 for each of local 1.
        CostChecker y = Dues.with(Dues.LOAD, 0, Dues.NEW, 0, Dues.PUSH, 0, Dues.RETURN, 0);
        y.cut(0, 2);
        y.base(0, 0, 0, 4);
        y.base(0, 2, 0, 2);
        claims(y, 0, 4, 0, 0, 4, 1, 0);
        claims(y, 2, 4, 1, 0);
        y.term(0, 2, 1, 3, Dues.side(1, 4));
        y.base(0, 0, 1, 2);
        y.term(0, 0, 1, 1, Dues.side(0, 4));
        due("cost: the potential of the end", y.check(0), 9);
        y.term(0, 0, 1, 2, Dues.side(1, 4));
        due("cost: 2 for 3", y.check(0), 9);
        y.term(0, 0, 1, 1, Dues.side(1, 4));
        due("cost: 3 for 3", y.check(0), 0);
    }

    private static void costOfCalls() {
        // Method 0 takes (x - y) words and 2, and 5 steps and 3 for each of z - local 3.
        CostChecker x = Dues.with(Dues.PUSH, 0, Dues.NEW, 0, Dues.PUSH, 0, Dues.RETURN, 0);
        claims(x, 0, 1, 0, 0, 3, 2, 0);
        x.base(0, 0, 0, 5);
        x.base(0, 0, 1, 2);
        x.term(0, 0, 0, 3, Dues.side(2, 3));
        x.term(0, 0, 1, 1, Dues.side(0, 1));
        due("cost of calls: the called one", x.check(0), 0);
        Dues.write(x, 1, Dues.LOAD, 0, Dues.PUSH, 4, Dues.ADD, 0, Dues.LOAD, 0, Dues.PUSH, 7, Dues.CALL, 0, Dues.RETURN, 0);
        x.base(1, 0, 0, 7 + 5 + 21 - 1);
        x.base(1, 0, 1, 2 + 4);
        due("cost of calls: a step too few", x.check(1), 9);
        x.base(1, 0, 0, 7 + 5 + 21);
        due("cost of calls: enough", x.check(1), 0);
        x.base(1, 0, 1, 2 + 3);
        due("cost of calls: a word too few", x.check(1), 9);
        x.base(1, 0, 1, 2 + 4);
        x.check(1);
        due("cost of calls: run", x.run(1, 50, 0, 0), 1);
        due("cost of calls: steps", x.ran(0), 11);
        Dues.write(x, 2, Dues.PUSH, 0, Dues.LOAD, 1, Dues.LOAD, 2, Dues.CALL, 1, Dues.LOAD, 0, Dues.LOAD, 1, Dues.CALL, 1,
            Dues.DROP, 0, Dues.PUSH, 0, Dues.RETURN, 0);
        x.base(2, 0, 0, 9 + 2 * 33);
        x.base(2, 0, 1, 12);
        due("cost of calls: two calls, a step too few", x.check(2), 9);
        x.base(2, 0, 0, 10 + 2 * 33);
        due("cost of calls: two calls", x.check(2), 0);
        x.base(2, 0, 1, 11);
        due("cost of calls: two calls, a word too few", x.check(2), 9);
    }

    private static void order() {
        // The first cut is at place 0, whatever comes behind; then by ascending places.
        CostChecker x = Dues.with(Dues.PUSH, 0, Dues.RETURN, 0, Dues.DROP, 0, Dues.LOAD, 9, Dues.DROP, 0);
        x.base(0, 0, 0, 2);
        x.cut(0, 4);
        x.cut(0, 2);
        x.cut(0, 3);
        x.base(0, 3, 1, -1);
        due("order: by ascending places", x.check(0), 202);
        x.claim(0, 2, 0, 1, -1);
        x.claim(0, 2, 1, 0, 0);
        due("order: the next", x.check(0), 301);
        x.base(0, 3, 1, 0);
        due("order: negative comes before the path", x.check(0), 302);
        x.claim(0, 3, 0, 1, -1);
        x.claim(0, 3, 1, 0, 0);
        due("order: the last", x.check(0), 402);
        // The path behind comes first: it is too dear, the other one is cramped.
        CostChecker y = Dues.with(Dues.LOAD, 0, Dues.LOAD, 1, Dues.IFLESS, 9, Dues.PUSH, 0, Dues.RETURN, 0);
        due("order: the path behind first", y.check(0), 9);
        y.base(0, 0, 0, 5);
        due("order: then the path at the place", y.check(0), 2);
        CostChecker z = Dues.with(Dues.READ, 0, Dues.READ, 0, Dues.IFLESS, 8, Dues.READ, 0, Dues.READ, 0, Dues.IFNOT, 8,
            Dues.PUSH, 0, Dues.RETURN, 0, Dues.READ, 0, Dues.NEW, 0);
        z.base(0, 0, 0, 7);
        due("order: depth first", z.check(0), 9);
        z.base(0, 0, 0, 8);
        due("order: then the last parting", z.check(0), 5);
    }
}
