/** Promises 12 to 14: inputs, runs, and what is said of the latest run. */
public final class MachineTest {
    private static final Dues DUES = new Dues();

    public static void main(String[] args) {
        feed();
        refusedRuns();
        instructions();
        cramped();
        trapped();
        placesThatAreNotThere();
        calls();
        tooLong();
        words();
        ran();
        DUES.close();
    }

    private static void due(String what, long got, long want) {
        DUES.due(what, got, want);
    }

    private static void feed() {
        CostChecker x = Dues.with(Dues.READ, 0, Dues.READ, 0, Dues.SUB, 0, Dues.RETURN, 0);
        DUES.due("feed: 1000001", x.feed(1000001), false);
        DUES.due("feed: -1000001", x.feed(-1000001), false);
        DUES.due("feed: 1000", x.feed(1000), true);
        DUES.due("feed: 1", x.feed(1), true);
        due("feed: run", x.run(0, 0, 0, 0), 1);
        due("feed: in their order", x.ran(3), 999);
        for (int i = 0; i < 12; i++) {
            DUES.due("feed: number " + i, x.feed(i % 2 == 0 ? 1000000 : -1000000), true);
        }
        DUES.due("feed: a thirteenth", x.feed(0), false);
        due("feed: not used up by a refused run", x.run(0, 0, 0, 1000001), -1);
        DUES.due("feed: still a thirteenth", x.feed(0), false);
        due("feed: too great a difference", x.run(0, 0, 0, 0), 2);
        for (int i = 0; i < 12; i++) {
            DUES.due("feed: used up, read or not, " + i, x.feed(i), true);
        }
        due("feed: run again", x.run(0, 0, 0, 0), 1);
        due("feed: the new ones are read", x.ran(3), -1);
        due("feed: run without", x.run(0, 0, 0, 0), 1);
        due("feed: 0 when there is none", x.ran(3), 0);
        x.feed(8);
        x.run(0, 0, 0, 0);
        due("feed: 8 and none", x.ran(3), 8);
    }

    private static void refusedRuns() {
        CostChecker x = Dues.with(Dues.LOAD, 2, Dues.RETURN, 0);
        due("run: first", x.run(0, 1, 2, 3), 1);
        due("run: method -1", x.run(-1, 0, 0, 0), -1);
        due("run: method 4", x.run(4, 0, 0, 0), -1);
        due("run: no instructions", x.run(1, 0, 0, 0), -1);
        due("run: x too great", x.run(0, 1000001, 0, 0), -1);
        due("run: y too small", x.run(0, 0, -1000001, 0), -1);
        due("run: z too great", x.run(0, 0, 0, Integer.MAX_VALUE), -1);
        due("run: nothing changed", x.ran(3), 3);
        due("run: nothing changed in steps", x.ran(0), 2);
        due("run: the edges", x.run(0, 1000000, -1000000, -1000000), 1);
        due("run: the edge is returned", x.ran(3), -1000000);
    }

    private static void returns(String what, CostChecker x, int steps, int value) {
        due(what + ": end", x.run(0, 11, 22, 33), 1);
        due(what + ": steps", x.ran(0), steps);
        due(what + ": value", x.ran(3), value);
    }

    private static void instructions() {
        returns("PUSH", Dues.with(Dues.PUSH, -7, Dues.RETURN, 0), 2, -7);
        int[] locals = {11, 22, 33, 0};
        for (int n = 0; n < 4; n++) {
            returns("LOAD " + n, Dues.with(Dues.LOAD, n, Dues.RETURN, 0), 2, locals[n]);
            returns("STORE " + n, Dues.with(Dues.PUSH, 5, Dues.STORE, n, Dues.LOAD, n, Dues.RETURN, 0), 4, 5);
        }
        returns("ADD", Dues.with(Dues.LOAD, 0, Dues.LOAD, 1, Dues.ADD, 0, Dues.RETURN, 0), 4, 33);
        returns("SUB", Dues.with(Dues.LOAD, 0, Dues.LOAD, 1, Dues.SUB, 0, Dues.RETURN, 0), 4, -11);
        returns("UP", Dues.with(Dues.UP, 1000, Dues.LOAD, 0, Dues.RETURN, 0), 3, 1011);
        returns("UP 1", Dues.with(Dues.UP_1, -1000, Dues.LOAD, 1, Dues.RETURN, 0), 3, -978);
        returns("GOTO", Dues.with(Dues.PUSH, 4, Dues.GOTO, 3, Dues.PUSH, 5, Dues.RETURN, 0), 3, 4);
        returns("DROP", Dues.with(Dues.PUSH, 4, Dues.PUSH, 5, Dues.DROP, 0, Dues.RETURN, 0), 4, 4);
        returns("RETURN the top", Dues.with(Dues.PUSH, 4, Dues.PUSH, 5, Dues.RETURN, 0), 3, 5);
        returns("NEW", Dues.with(Dues.PUSH, 4, Dues.PUSH, 5, Dues.NEW, 0, Dues.RETURN, 0), 4, 4);
        branches(1, 2, 1, 0);
        branches(2, 2, 0, 1);
        branches(3, 2, 0, 1);
    }

    /** What IFLESS and IFNOT return when they go to their place or not. */
    private static void branches(int left, int right, int byLess, int byNot) {
        int[] kinds = {Dues.IFLESS, Dues.IFNOT};
        int[] want = {byLess, byNot};
        for (int i = 0; i < 2; i++) {
            CostChecker x = Dues.with(Dues.PUSH, left, Dues.PUSH, right, kinds[i], 5,
                Dues.PUSH, 0, Dues.RETURN, 0, Dues.PUSH, 1, Dues.RETURN, 0);
            returns("kind " + kinds[i] + " of " + left + " and " + right, x, 5, want[i]);
        }
    }

    private static void ends(String what, CostChecker x, int end, int steps) {
        due(what + ": end", x.run(0, 0, 0, 0), end);
        due(what + ": steps", x.ran(0), steps);
        due(what + ": value", x.ran(3), 0);
    }

    private static void cramped() {
        int[] takes = {0, 0, 1, 2, 2, 0, 0, 0, 2, 2, 1, 3, 1, 0, 1};
        for (int kind = 0; kind < takes.length; kind++) {
            for (int values = 0; values < takes[kind]; values++) {
                CostChecker x = new CostChecker();
                for (int i = 0; i < values; i++) {
                    x.put(0, Dues.PUSH, 1);
                }
                Dues.write(x, 0, kind, 0, Dues.PUSH, 0, Dues.RETURN, 0);
                ends("kind " + kind + " with " + values, x, 3, values + 1);
            }
        }
        int[] puts = {Dues.PUSH, Dues.LOAD, Dues.READ};
        for (int kind : puts) {
            CostChecker x = new CostChecker();
            for (int i = 0; i < 7; i++) {
                x.put(0, kind, 0);
            }
            x.put(0, Dues.RETURN, 0);
            ends("seven of kind " + kind, x, 3, 7);
        }
        returns("six values", Dues.with(Dues.PUSH, 1, Dues.PUSH, 2, Dues.PUSH, 3, Dues.PUSH, 4, Dues.PUSH, 5,
            Dues.PUSH, 6, Dues.RETURN, 0), 7, 6);
        fullStack();
        int[] strange = {-1, 4, 1000, -1000};
        for (int n : strange) {
            ends("LOAD " + n, Dues.with(Dues.LOAD, n, Dues.RETURN, 0), 3, 1);
            ends("STORE " + n, Dues.with(Dues.PUSH, 0, Dues.STORE, n, Dues.PUSH, 0, Dues.RETURN, 0), 3, 2);
        }
    }

    /** With six values on the stack, each kind that does not put a seventh one there is fine. */
    private static void fullStack() {
        int[] kinds = {Dues.STORE, Dues.ADD, Dues.SUB, Dues.UP, Dues.UP_1, Dues.GOTO, Dues.IFLESS, Dues.IFNOT,
            Dues.NEW, Dues.CALL, Dues.DROP};
        for (int kind : kinds) {
            CostChecker x = Dues.with(Dues.PUSH, 4, Dues.RETURN, 0);
            for (int i = 0; i < 6; i++) {
                x.put(1, Dues.PUSH, 4);
            }
            int n = kind == Dues.GOTO || kind == Dues.IFLESS || kind == Dues.IFNOT ? 7 : 0;
            Dues.write(x, 1, kind, n, Dues.RETURN, 0);
            due("kind " + kind + " with six values", x.run(1, 0, 0, 0), 1);
        }
        CostChecker last = Dues.with(Dues.PUSH, 1, Dues.PUSH, 2, Dues.PUSH, 3, Dues.PUSH, 4, Dues.PUSH, 5, Dues.PUSH, 6,
            Dues.RETURN, 0);
        returns("a run that leaves values", last, 7, 6);
        returns("the next begins with an empty stack", last, 7, 6);
    }

    /** Brings 1000000 on the stack, or -1000000, by inputs. */
    private static CostChecker reading(int one, int other, int kind) {
        CostChecker x = Dues.with(Dues.READ, 0, Dues.READ, 0, kind, 0, Dues.RETURN, 0);
        x.feed(one);
        x.feed(other);
        return x;
    }

    private static void trapped() {
        ends("ADD too great", reading(1000000, 1, Dues.ADD), 2, 3);
        ends("ADD too small", reading(-1000000, -1, Dues.ADD), 2, 3);
        ends("SUB too great", reading(1000000, -1, Dues.SUB), 2, 3);
        ends("SUB too small", reading(-1000000, 1, Dues.SUB), 2, 3);
        returns("ADD at the edge", reading(999999, 1, Dues.ADD), 4, 1000000);
        returns("ADD at the lower edge", reading(-999999, -1, Dues.ADD), 4, -1000000);
        returns("SUB at the edge", reading(999999, -1, Dues.SUB), 4, 1000000);
        returns("SUB at the lower edge", reading(-999999, 1, Dues.SUB), 4, -1000000);
        CostChecker up = Dues.with(Dues.UP, 1, Dues.UP_1, -1, Dues.LOAD, 0, Dues.RETURN, 0);
        due("UP too great", up.run(0, 1000000, 0, 0), 2);
        due("UP too great: steps", up.ran(0), 1);
        due("UP 1 too small", up.run(0, 0, -1000000, 0), 2);
        due("UP 1 too small: steps", up.ran(0), 2);
        due("UP at the edges", up.run(0, 999999, -999999, 0), 1);
        due("UP at the edges: value", up.ran(3), 1000000);
        ends("NEW of -1", Dues.with(Dues.PUSH, -1, Dues.NEW, 0, Dues.PUSH, 0, Dues.RETURN, 0), 2, 2);
        CostChecker last = Dues.with(Dues.LOAD, 0, Dues.LOAD, 0, Dues.ADD, 0);
        due("TRAP before a place that is not there", last.run(0, 1000000, 0, 0), 2);
        due("no TRAP, and then not there", last.run(0, 500000, 0, 0), 3);
        ends("NEW of -1 as the last", Dues.with(Dues.PUSH, -1, Dues.NEW, 0), 2, 2);
    }

    private static void placesThatAreNotThere() {
        ends("behind the last", Dues.with(Dues.PUSH, 0), 3, 1);
        ends("GOTO -1", Dues.with(Dues.GOTO, -1), 3, 1);
        ends("GOTO 1 of 1", Dues.with(Dues.GOTO, 1), 3, 1);
        int[] kinds = {Dues.IFLESS, Dues.IFNOT};
        for (int i = 0; i < 2; i++) {
            CostChecker goes = Dues.with(Dues.PUSH, i, Dues.PUSH, 1, kinds[i], 99, Dues.PUSH, 0, Dues.RETURN, 0);
            ends("goes to 99, kind " + kinds[i], goes, 3, 3);
            CostChecker stays = Dues.with(Dues.PUSH, 1 - i, Dues.PUSH, 1, kinds[i], 99, Dues.PUSH, 0, Dues.RETURN, 0);
            ends("does not go to 99, kind " + kinds[i], stays, 1, 5);
            CostChecker behind = Dues.with(Dues.PUSH, 1 - i, Dues.PUSH, 1, kinds[i], 0);
            ends("nothing behind, kind " + kinds[i], behind, 3, 3);
        }
        CostChecker words = Dues.with(Dues.PUSH, 5, Dues.NEW, 0);
        ends("NEW as the last", words, 3, 2);
        due("NEW as the last: words", words.ran(1), 7);
    }

    private static void calls() {
        CostChecker x = Dues.with(Dues.LOAD, 0, Dues.LOAD, 1, Dues.SUB, 0, Dues.LOAD, 2, Dues.SUB, 0, Dues.STORE, 3,
            Dues.LOAD, 3, Dues.RETURN, 0);
        Dues.write(x, 1, Dues.PUSH, 9, Dues.STORE, 3, Dues.PUSH, 100, Dues.PUSH, 100, Dues.PUSH, 20, Dues.PUSH, 3,
            Dues.CALL, 0, Dues.SUB, 0, Dues.LOAD, 3, Dues.ADD, 0, Dues.RETURN, 0);
        due("CALL", x.run(1, 1, 2, 3), 1);
        due("CALL: arguments in their order, own locals and stack", x.ran(3), 100 - 77 + 9);
        due("CALL: steps", x.ran(0), 11 + 8);
        due("CALL: methods at once", x.ran(2), 2);
        due("CALL: of the called one alone", x.run(0, 5, 0, 0), 1);
        due("CALL: one method at once", x.ran(2), 1);
        badCalls();
        CostChecker last = Dues.with(Dues.PUSH, 8, Dues.RETURN, 0);
        Dues.write(last, 3, Dues.PUSH, 0, Dues.PUSH, 0, Dues.PUSH, 0, Dues.CALL, 0);
        due("CALL as the last", last.run(3, 0, 0, 0), 3);
        due("CALL as the last: the called one is run", last.ran(0), 6);
        due("CALL as the last: methods at once", last.ran(2), 2);
        due("CALL as the last: value", last.ran(3), 0);
        nestedCalls();
        localsOfASecondCall();
    }

    private static void badCalls() {
        int[] called = {1, 2, 3, 4, -1, 1000};
        for (int n : called) {
            CostChecker x = Dues.with(Dues.PUSH, 8, Dues.RETURN, 0);
            Dues.write(x, 1, Dues.PUSH, 0, Dues.PUSH, 0, Dues.PUSH, 0, Dues.CALL, n, Dues.RETURN, 0);
            Dues.write(x, 2, Dues.PUSH, 8, Dues.RETURN, 0);
            due("CALL " + n + " from 1", x.run(1, 0, 0, 0), 3);
            due("CALL " + n + " from 1: steps", x.ran(0), 4);
            due("CALL " + n + " from 1: methods at once", x.ran(2), 1);
        }
        CostChecker empty = new CostChecker();
        Dues.write(empty, 1, Dues.PUSH, 0, Dues.PUSH, 0, Dues.PUSH, 0, Dues.CALL, 0, Dues.RETURN, 0);
        due("CALL of an empty one", empty.run(1, 0, 0, 0), 3);
        CostChecker ends = Dues.with(Dues.RETURN, 0);
        Dues.write(ends, 1, Dues.PUSH, 0, Dues.PUSH, 0, Dues.PUSH, 0, Dues.CALL, 0, Dues.RETURN, 0);
        due("the called one is cramped", ends.run(1, 0, 0, 0), 3);
        due("the called one is cramped: steps", ends.ran(0), 5);
    }

    private static void nestedCalls() {
        CostChecker x = Dues.with(Dues.PUSH, 5, Dues.NEW, 0, Dues.LOAD, 0, Dues.RETURN, 0);
        for (int m = 1; m < 4; m++) {
            Dues.write(x, m, Dues.UP, 1, Dues.LOAD, 0, Dues.PUSH, 0, Dues.PUSH, 0, Dues.CALL, m - 1, Dues.RETURN, 0);
        }
        due("four deep", x.run(3, 10, 0, 0), 1);
        due("four deep: value", x.ran(3), 13);
        due("four deep: steps", x.ran(0), 3 * 6 + 4);
        due("four deep: words", x.ran(1), 7);
        due("four deep: methods at once", x.ran(2), 4);
    }

    private static void localsOfASecondCall() {
        CostChecker x = Dues.with(Dues.LOAD, 3, Dues.PUSH, 1, Dues.STORE, 3, Dues.PUSH, 1, Dues.PUSH, 2, Dues.DROP, 0,
            Dues.DROP, 0, Dues.RETURN, 0);
        Dues.write(x, 1, Dues.PUSH, 0, Dues.PUSH, 0, Dues.PUSH, 0, Dues.CALL, 0, Dues.PUSH, 0, Dues.PUSH, 0,
            Dues.CALL, 0, Dues.RETURN, 0);
        due("second call", x.run(1, 0, 0, 0), 1);
        due("second call: its local 3 is 0 again", x.ran(3), 0);
        CostChecker leaves = Dues.with(Dues.PUSH, 1, Dues.PUSH, 2, Dues.PUSH, 3, Dues.PUSH, 4, Dues.RETURN, 0);
        Dues.write(leaves, 1, Dues.PUSH, 0, Dues.PUSH, 0, Dues.PUSH, 0, Dues.CALL, 0, Dues.PUSH, 0, Dues.PUSH, 0,
            Dues.CALL, 0, Dues.RETURN, 0);
        due("second call: its stack is empty again", leaves.run(1, 0, 0, 0), 1);
        CostChecker traps = Dues.with(Dues.UP, 1000, Dues.GOTO, 0);
        Dues.write(traps, 1, Dues.LOAD, 0, Dues.LOAD, 1, Dues.LOAD, 1, Dues.CALL, 0, Dues.RETURN, 0);
        Dues.write(traps, 2, Dues.PUSH, 6, Dues.RETURN, 0);
        due("a run that is trapped in a call", traps.run(1, 999000, 0, 0), 2);
        due("a run that is trapped in a call: methods at once", traps.ran(2), 2);
        due("a run behind that", traps.run(2, 0, 0, 0), 1);
        due("a run behind that: value", traps.ran(3), 6);
        due("a run behind that: methods at once", traps.ran(2), 1);
    }

    private static void tooLong() {
        ends("GOTO 0", Dues.with(Dues.GOTO, 0), 4, 3000);
        // The loop takes 4 steps a round; so many rounds and what is behind them make 3000 or 3001.
        CostChecker x = Dues.with(Dues.LOAD, 0, Dues.PUSH, 748, Dues.IFNOT, 5, Dues.UP, 1, Dues.GOTO, 0,
            Dues.PUSH, 0, Dues.RETURN, 0);
        due("3000 steps are not too long", x.run(0, 149, 0, 0), 1);
        due("3000 steps", x.ran(0), 3000);
        CostChecker y = Dues.with(Dues.LOAD, 0, Dues.PUSH, 748, Dues.IFNOT, 5, Dues.UP, 1, Dues.GOTO, 0,
            Dues.UP, 0, Dues.PUSH, 0, Dues.RETURN, 0);
        due("3001 steps are", y.run(0, 149, 0, 0), 4);
        due("3001 steps: 3000 counted", y.ran(0), 3000);
        CostChecker z = Dues.with(Dues.LOAD, 0, Dues.PUSH, 748, Dues.IFNOT, 5, Dues.UP, 1, Dues.GOTO, 0,
            Dues.UP, 0, Dues.GOTO, 99);
        due("cramped by step 3000", z.run(0, 149, 0, 0), 3);
        CostChecker words = Dues.with(Dues.LOAD, 0, Dues.NEW, 0, Dues.GOTO, 0);
        due("too long with words", words.run(0, 3, 0, 0), 4);
        due("too long: words", words.ran(1), 5000);
        due("too long: value", words.ran(3), 0);
    }

    /** A first NEW of what is read, and then NEWs of the first argument, ten a round. */
    private static CostChecker taking(int first) {
        CostChecker x = Dues.with(Dues.READ, 0, Dues.NEW, 0);
        for (int i = 0; i < 10; i++) {
            Dues.write(x, 0, Dues.LOAD, 0, Dues.NEW, 0);
        }
        x.put(0, Dues.GOTO, 2);
        x.feed(first);
        return x;
    }

    private static void words() {
        CostChecker exact = taking(999998);
        due("words: 1000 times 1000000", exact.run(0, 999998, 0, 0), 2);
        due("words: 1000000000 are taken, not more", exact.ran(1), 1000000000);
        due("words: the NEW number 1001 ends it", exact.ran(0), 2 + 99 * 21 + 10 * 2);
        CostChecker more = taking(999999);
        due("words: one word too many", more.run(0, 999998, 0, 0), 2);
        due("words: no memory is taken then", more.ran(1), 999000001);
        CostChecker most = taking(0);
        due("words: of the greatest width", most.run(0, 1000000, 0, 0), 2);
        due("words: 999 of them", most.ran(1), 2 + 999 * 1000002);
        CostChecker none = taking(0);
        due("words: a width below 0 later", none.run(0, -1, 0, 0), 2);
        due("words: what was taken before", none.ran(1), 2);
    }

    private static void ran() {
        CostChecker x = new CostChecker();
        for (int what = 0; what < 4; what++) {
            due("ran: before the first run " + what, x.ran(what), 0);
        }
        due("ran: -1", x.ran(-1), -1);
        due("ran: 4", x.ran(4), -1);
        Dues.write(x, 0, Dues.PUSH, 3, Dues.NEW, 0, Dues.LOAD, 1, Dues.RETURN, 0);
        x.run(0, 0, 77, 0);
        due("ran: steps", x.ran(0), 4);
        due("ran: words", x.ran(1), 5);
        due("ran: methods at once", x.ran(2), 1);
        due("ran: returned", x.ran(3), 77);
        Dues.write(x, 1, Dues.DROP, 0);
        x.run(1, 1, 2, 3);
        due("ran: the latest run: steps", x.ran(0), 1);
        due("ran: the latest run: words", x.ran(1), 0);
        due("ran: the latest run: methods at once", x.ran(2), 1);
        due("ran: the latest run: returned", x.ran(3), 0);
        x.clear(1);
        x.check(0);
        due("ran: other calls change nothing", x.ran(0), 1);
    }
}
