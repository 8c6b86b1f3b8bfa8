/** Promises 1 to 7 and 9 to 11: what is put into an object, and what it says of that. */
public final class CertificateCallsTest {
    private static final Dues DUES = new Dues();

    public static void main(String[] args) {
        newObject();
        put();
        clear();
        cut();
        claim();
        base();
        term();
        accepted();
        bound();
        depth();
        DUES.close();
    }

    private static void due(String what, long got, long want) {
        DUES.due(what, got, want);
    }

    private static void due(String what, boolean got, boolean want) {
        DUES.due(what, got, want);
    }

    /** A method that returns 0, which is accepted with a base of 2 steps. */
    private static CostChecker returning() {
        CostChecker x = Dues.with(Dues.PUSH, 0, Dues.RETURN, 0);
        x.base(0, 0, 0, 2);
        return x;
    }

    private static void newObject() {
        CostChecker x = new CostChecker();
        due("NONE", CostChecker.NONE, -1);
        for (int m = 0; m < 4; m++) {
            due("new: depth " + m, x.depth(m), 0);
            due("new: check " + m, x.check(m), 2);
            due("new: accepted " + m, x.accepted(m), false);
            due("new: run " + m, x.run(m, 0, 0, 0), -1);
            due("new: the cut at 0 of " + m, x.cut(m, 0), false);
            due("new: no cut at 1 of " + m, x.claim(m, 1, 0, 1, 0), false);
            due("new: place 0 of " + m, x.put(m, 12, 0), 0);
        }
        for (int what = 0; what < 4; what++) {
            due("new: ran " + what, x.ran(what), 0);
        }
        CostChecker free = Dues.with(Dues.PUSH, 0, Dues.RETURN, 0);
        due("new: potentials are 0", free.check(0), 9);
        CostChecker room = new CostChecker();
        for (int i = 0; i < 6; i++) {
            due("new: no claims " + i, room.claim(3, 0, 0, 1, 5), true);
        }
        for (int i = 0; i < 3; i++) {
            due("new: no terms " + i, room.term(3, 0, i % 2, 1, 1), true);
        }
    }

    private static void put() {
        CostChecker x = new CostChecker();
        due("put: method -1", x.put(-1, 0, 0), -1);
        due("put: method 4", x.put(4, 0, 0), -1);
        due("put: kind -1", x.put(0, -1, 0), -1);
        due("put: kind 15", x.put(0, 15, 0), -1);
        due("put: n -1001", x.put(0, 0, -1001), -1);
        due("put: n 1001", x.put(0, 0, 1001), -1);
        due("put: the greatest int", x.put(0, 0, Integer.MAX_VALUE), -1);
        due("put: the least int", x.put(Integer.MIN_VALUE, Integer.MIN_VALUE, Integer.MIN_VALUE), -1);
        for (int kind = 0; kind < 15; kind++) {
            due("put: kind " + kind, x.put(1, kind, kind % 2 == 0 ? 1000 : -1000), kind);
        }
        for (int place = 0; place < 24; place++) {
            due("put: place " + place, x.put(3, 14, 0), place);
        }
        due("put: 25 instructions", x.put(3, 14, 0), -1);
        due("put: another method", x.put(2, 14, 0), 0);
    }

    private static void clear() {
        CostChecker x = returning();
        due("clear: method -1", x.clear(-1), false);
        due("clear: method 4", x.clear(4), false);
        x.cut(0, 7);
        x.claim(0, 0, 0, 1, -1);
        x.claim(0, 0, 1, 0, -1);
        x.term(0, 0, 0, 1, 1);
        x.base(0, 0, 1, 9);
        due("clear", x.clear(0), true);
        due("clear: an empty one", x.clear(2), true);
        due("clear: no instructions", x.run(0, 0, 0, 0), -1);
        due("clear: no cut at 7", x.base(0, 7, 0, 1), false);
        due("clear: a cut at 0", x.cut(0, 0), false);
        Dues.write(x, 0, Dues.PUSH, 0, Dues.RETURN, 0);
        due("clear: potentials are 0, and claims gone", x.check(0), 9);
        x.base(0, 0, 0, 2);
        due("clear: terms are gone", x.check(0), 0);
        due("clear: bound of steps", x.bound(0, 0, 5, 5, 5), 2);
        due("clear: bound of words", x.bound(0, 1, 5, 5, 5), 0);
        x.cut(0, 7);
        due("clear: claims of a new cut", x.claim(0, 7, 0, 1, 0), true);
        due("clear: the other methods stay", x.put(0, 0, 0), 2);
        x.put(3, 12, 0);
        x.clear(0);
        due("clear: method 3 stays", x.depth(3), 1);
    }

    private static void cut() {
        CostChecker x = new CostChecker();
        due("cut: method -1", x.cut(-1, 1), false);
        due("cut: method 4", x.cut(4, 1), false);
        due("cut: place -1", x.cut(0, -1), false);
        due("cut: place 24", x.cut(0, 24), false);
        due("cut: place 0", x.cut(0, 0), false);
        int[] places = {23, 1, 22, 12, 5};
        for (int place : places) {
            due("cut: place " + place, x.cut(0, place), true);
            due("cut: again " + place, x.cut(0, place), false);
        }
        due("cut: a seventh", x.cut(0, 6), false);
        due("cut: another method", x.cut(1, 6), true);
        CostChecker again = Dues.with(Dues.PUSH, 0, Dues.RETURN, 0);
        again.cut(0, 1);
        again.claim(0, 1, 0, 1, -1);
        again.base(0, 1, 0, 50);
        again.term(0, 1, 0, 3, 1);
        again.clear(0);
        Dues.write(again, 0, Dues.GOTO, 1, Dues.GOTO, 2, Dues.PUSH, 0, Dues.RETURN, 0);
        again.base(0, 0, 0, 4);
        again.cut(0, 1);
        due("cut: without claims, with potentials 0", again.check(0), 109);
        again.base(0, 1, 0, 3);
        due("cut: without terms", again.check(0), 0);
    }

    private static void claim() {
        CostChecker x = new CostChecker();
        due("claim: method -1", x.claim(-1, 0, 0, 1, 0), false);
        due("claim: method 4", x.claim(4, 0, 0, 1, 0), false);
        due("claim: no cut", x.claim(0, 1, 0, 1, 0), false);
        due("claim: place -1", x.claim(0, -1, 0, 1, 0), false);
        due("claim: a is -1", x.claim(0, 0, -1, 1, 0), false);
        due("claim: a is 5", x.claim(0, 0, 5, 1, 0), false);
        due("claim: b is -1", x.claim(0, 0, 1, -1, 0), false);
        due("claim: b is 5", x.claim(0, 0, 1, 5, 0), false);
        due("claim: c is -1001", x.claim(0, 0, 1, 0, -1001), false);
        due("claim: c is 1001", x.claim(0, 0, 1, 0, 1001), false);
        for (int a = 0; a < 5; a++) {
            due("claim: both are " + a, x.claim(0, 0, a, a, 0), false);
        }
        x.cut(0, 23);
        int[] sides = {0, 1, 2, 3, 4, 0, 4};
        for (int i = 0; i < 6; i++) {
            int c = i % 2 == 0 ? 1000 : -1000;
            due("claim " + i, x.claim(0, 23, sides[i], sides[i + 1], c), true);
        }
        due("claim: a seventh", x.claim(0, 23, 0, 1, 0), false);
        due("claim: at another cut", x.claim(0, 0, 0, 1, 0), true);
    }

    private static void base() {
        CostChecker x = new CostChecker();
        due("base: method -1", x.base(-1, 0, 0, 0), false);
        due("base: method 4", x.base(4, 0, 0, 0), false);
        due("base: no cut", x.base(0, 3, 0, 0), false);
        due("base: potential -1", x.base(0, 0, -1, 0), false);
        due("base: potential 2", x.base(0, 0, 2, 0), false);
        due("base: -10001", x.base(0, 0, 0, -10001), false);
        due("base: 10001", x.base(0, 0, 0, 10001), false);
        due("base: -10000", x.base(0, 0, 0, -10000), true);
        Dues.write(x, 0, Dues.PUSH, 0, Dues.RETURN, 0);
        due("base: taken", x.check(0), 1);
        due("base: 10000", x.base(0, 0, 0, 10000), true);
        due("base: words", x.base(0, 0, 1, 7), true);
        due("base: becomes, is not added", x.check(0), 0);
        due("base: of steps", x.bound(0, 0, 1, 2, 3), 10000);
        due("base: of words", x.bound(0, 1, 1, 2, 3), 7);
    }

    private static void term() {
        CostChecker x = new CostChecker();
        due("term: method -1", x.term(-1, 0, 0, 1, 1), false);
        due("term: method 4", x.term(4, 0, 0, 1, 1), false);
        due("term: no cut", x.term(0, 3, 0, 1, 1), false);
        due("term: potential -1", x.term(0, 0, -1, 1, 1), false);
        due("term: potential 2", x.term(0, 0, 2, 1, 1), false);
        due("term: k is 0", x.term(0, 0, 0, 0, 1), false);
        due("term: k is 101", x.term(0, 0, 0, 101, 1), false);
        due("term: side -1", x.term(0, 0, 0, 1, -1), false);
        due("term: side 25", x.term(0, 0, 0, 1, 25), false);
        due("term: side -21", x.term(0, 0, 0, 1, -21), false);
        for (int side = 0; side < 25; side++) {
            CostChecker each = new CostChecker();
            due("term: side " + side, each.term(0, 0, 1, 100, side), side / 5 != side % 5);
        }
        for (int i = 0; i < 3; i++) {
            due("term: steps " + i, x.term(0, 0, 0, 1, Dues.side(0, 4)), true);
        }
        due("term: a fourth", x.term(0, 0, 0, 1, Dues.side(0, 4)), false);
        for (int i = 0; i < 3; i++) {
            due("term: words " + i, x.term(0, 0, 1, 100, Dues.side(2, 1)), true);
        }
        due("term: a fourth of words", x.term(0, 0, 1, 1, 1), false);
        x.claim(0, 0, 4, 0, 0);
        x.claim(0, 0, 1, 2, 0);
        x.base(0, 0, 0, 2);
        Dues.write(x, 0, Dues.PUSH, 0, Dues.RETURN, 0);
        due("term: checked", x.check(0), 0);
        due("term: steps", x.bound(0, 0, 5, 1, 3), 17);
        due("term: words", x.bound(0, 1, 5, 1, 3), 600);
    }

    private static void accepted() {
        CostChecker x = returning();
        Dues.write(x, 1, Dues.PUSH, 0, Dues.RETURN, 0);
        x.base(1, 0, 0, 2);
        Dues.write(x, 2, Dues.PUSH, 0, Dues.RETURN, 0);
        x.base(2, 0, 0, 2);
        due("accepted: before a check", x.accepted(1), false);
        due("accepted: method -1", x.accepted(-1), false);
        due("accepted: method 4", x.accepted(4), false);
        for (int change = 0; change < 6; change++) {
            x.check(0);
            x.check(1);
            x.check(2);
            due("accepted: all three", x.accepted(0) && x.accepted(1) && x.accepted(2), true);
            refuseChanges(x);
            due("accepted: behind refused changes", x.accepted(0) && x.accepted(1) && x.accepted(2), true);
            due("accepted: the change is made", changeMethod1(x, change), true);
            due("accepted: the lower one, change " + change, x.accepted(0), true);
            due("accepted: the changed one, change " + change, x.accepted(1), false);
            due("accepted: the higher one, change " + change, x.accepted(2), false);
        }
        CostChecker wrong = returning();
        wrong.check(0);
        wrong.base(0, 0, 0, 1);
        due("accepted: a wrong check", wrong.check(0), 9);
        due("accepted: behind a wrong check", wrong.accepted(0), false);
        CostChecker kept = returning();
        kept.check(0);
        kept.run(0, 0, 0, 0);
        kept.feed(3);
        kept.depth(0);
        kept.bound(0, 0, 0, 0, 0);
        due("accepted: other calls change nothing", kept.accepted(0), true);
        kept.clear(3);
        kept.put(1, 0, 0);
        due("accepted: changes above change nothing", kept.accepted(0), true);
        kept.base(0, 0, 0, 2);
        due("accepted: the same base is a change too", kept.accepted(0), false);
    }

    private static void refuseChanges(CostChecker x) {
        x.put(1, 15, 0);
        x.clear(4);
        x.cut(1, 0);
        x.claim(1, 0, 3, 3, 0);
        x.base(1, 0, 2, 0);
        x.term(1, 0, 0, 0, 1);
    }

    /** Each kind of change in its turn, such that method 1 is well behind it. */
    private static boolean changeMethod1(CostChecker x, int change) {
        switch (change) {
            case 0:
                return x.put(1, 12, 0) != CostChecker.NONE;
            case 1:
                return x.base(1, 0, 0, 100);
            case 2:
                return x.claim(1, 0, 4, 0, 0);
            case 3:
                return x.term(1, 0, 1, 1, Dues.side(0, 4));
            case 4:
                return x.cut(1, 2) && x.base(1, 2, 0, 1) && x.claim(1, 2, 0, 1, -1) && x.claim(1, 2, 1, 0, -1);
            default:
                return x.clear(1);
        }
    }

    private static void bound() {
        CostChecker x = returning();
        due("bound: not accepted", x.bound(0, 0, 0, 0, 0), -1);
        x.base(0, 0, 0, 50);
        x.term(0, 0, 0, 100, Dues.side(0, 1));
        x.term(0, 0, 0, 7, Dues.side(4, 2));
        x.term(0, 0, 1, 3, Dues.side(0, 3));
        x.claim(0, 0, 1, 0, 0);
        x.claim(0, 0, 2, 4, 5);
        x.claim(0, 0, 3, 0, 0);
        due("bound: check", x.check(0), 0);
        due("bound: steps", x.bound(0, 0, 10, 4, -2), 50 + 600 + 14);
        due("bound: words", x.bound(0, 1, 10, 4, -2), 30);
        due("bound: the greatest", x.bound(0, 0, 1000000, -1000000, -1000000), 207000050L);
        due("bound: potential -1", x.bound(0, -1, 0, 0, 0), -1);
        due("bound: potential 2", x.bound(0, 2, 0, 0, 0), -1);
        due("bound: method -1", x.bound(-1, 0, 0, 0, 0), -1);
        due("bound: method 4", x.bound(4, 0, 0, 0, 0), -1);
        due("bound: x too great", x.bound(0, 0, 1000001, 0, 0), -1);
        due("bound: y too small", x.bound(0, 0, 0, -1000001, 0), -1);
        due("bound: z too small", x.bound(0, 0, 0, 0, -1000001), -1);
        due("bound: a claim at its edge", x.bound(0, 0, 4, 4, 5), 50 - 35);
        due("bound: a claim just not", x.bound(0, 0, 4, 5, 5), -1);
        due("bound: a claim on side 4", x.bound(0, 0, 4, 4, 6), -1);
        due("bound: a claim on local 3, which is 0", x.bound(0, 0, -1, -1, 0), -1);
        due("bound: local 3 at its edge", x.bound(0, 0, 0, -1, 0), 150);
    }

    private static void depth() {
        CostChecker x = new CostChecker();
        due("depth: method -1", x.depth(-1), -1);
        due("depth: method 4", x.depth(4), -1);
        due("depth: nothing", x.depth(3), 0);
        Dues.write(x, 3, Dues.CALL, 2, Dues.CALL, 3, Dues.CALL, -1, Dues.CALL, 4);
        due("depth: no call that counts", x.depth(3), 1);
        Dues.write(x, 2, Dues.RETURN, 0, Dues.CALL, 0, Dues.CALL, 1);
        due("depth: calls to empty ones", x.depth(3), 2);
        Dues.write(x, 0, Dues.DROP, 0);
        due("depth: a call behind RETURN", x.depth(3), 3);
        due("depth: of the lowest", x.depth(0), 1);
        Dues.write(x, 1, Dues.CALL, 0, Dues.CALL, 2);
        due("depth: all four", x.depth(3), 4);
        due("depth: of 2", x.depth(2), 3);
        due("depth: a call upwards", x.depth(1), 2);
        x.clear(2);
        due("depth: behind clear", x.depth(3), 1);
        Dues.write(x, 3, Dues.CALL, 1, Dues.CALL, 0);
        due("depth: the longest way counts", x.depth(3), 3);
        Dues.write(x, 2, Dues.PUSH, 0);
        due("depth: number 0 of another kind", x.depth(2), 1);
    }
}
