import java.util.function.IntToLongFunction;

/**
 * The boundary cases that promises 1 to 14 name, a sentence at a time: what is just taken, what is just
 * refused, what is empty and what is full; and that a refused call changes nothing.
 */
public final class CallBoundariesTest {
    private static final Dues DUES = new Dues();
    private static final int NONE = CostChecker.NONE;
    private static final int MOST = 1000000;

    public static void main(String[] args) {
        newObjectIsEmpty();
        newObjectHasOneCut();
        putTakes24();
        putRefuses();
        putTakesPlacesLocalsAndMethodsThatAreNone();
        clearMakesAFullMethodAsAtFirst();
        clearRefuses();
        cutTakesPlaces0To23();
        cutRefusesASeventh();
        cutRefuses();
        claimTakes6();
        claimRefuses();
        baseTakesItsEdges();
        baseRefuses();
        termTakes3();
        termRefuses();
        checkOfNoInstructions();
        checkOfNoMethod();
        checkTellsThePlace();
        acceptedUntilAChange();
        acceptedByTheLatestCheck();
        acceptedOfNoMethod();
        boundOfArgumentsAtTheirEdges();
        boundOfClaimsAtTheirEdges();
        boundRefuses();
        depthAtItsEdges();
        feedTakes12();
        feedTakesItsEdges();
        runTakesItsEdges();
        runRefusesAndNothingChanges();
        runUsesAllInputsUp();
        ranBeforeAndBehind();
        call512();
        DUES.close();
    }

    private static void due(String what, long got, long want) {
        DUES.due(what, got, want);
    }

    private static void due(String what, boolean got, boolean want) {
        DUES.due(what, got, want);
    }

    private static long number(boolean answer) {
        return answer ? 1 : 0;
    }

    /** Asks that a call is refused for the numbers just outside, and for the farthest ones. */
    private static void refused(String what, int least, int most, long refusal, IntToLongFunction call) {
        int[] outside = {least - 1, most + 1, Integer.MIN_VALUE, Integer.MAX_VALUE};
        for (int value : outside) {
            due(what + " " + value + " is refused", call.applyAsLong(value), refusal);
        }
    }

    // An object of which each change can be seen.

    /** Counts local 0 up to local 1: takes 5 + 5 * (y - x) steps. */
    private static void writeCounting(CostChecker x, int m) {
        Dues.write(x, m, Dues.LOAD, 0, Dues.LOAD, 1, Dues.IFNOT, 5, Dues.UP, 1, Dues.GOTO, 0, Dues.LOAD, 0, Dues.RETURN, 0);
        x.claim(m, 0, 0, 1, 0);
        x.base(m, 0, 0, 5);
        x.term(m, 0, 0, 5, Dues.side(1, 0));
    }

    /** Four accepted methods that count; the latest run returned 7 in 30 steps. */
    private static CostChecker counting() {
        CostChecker x = new CostChecker();
        for (int m = 0; m < 4; m++) {
            writeCounting(x, m);
            due("the test's own method " + m, x.check(m), 0);
        }
        due("the test's own run", x.run(3, 2, 7, 0), 1);
        return x;
    }

    /** Asks that counting() is as it was made, and has as much room as then. */
    private static void unchanged(String what, CostChecker x) {
        for (int m = 0; m < 4; m++) {
            String of = what + ": method " + m + " is as before, ";
            due(of + "accepted", x.accepted(m), true);
            due(of + "bound of steps", x.bound(m, 0, 2, 7, 0), 30);
            due(of + "bound of words", x.bound(m, 1, 2, 7, 0), 0);
            due(of + "claim", x.bound(m, 0, 8, 7, 0), NONE);
            due(of + "check", x.check(m), 0);
            due(of + "depth", x.depth(m), 1);
        }
        due(what + ": steps of the latest run", x.ran(0), 30);
        due(what + ": value of the latest run", x.ran(3), 7);
        for (int m = 0; m < 4; m++) {
            String of = what + ": room in method " + m + ", ";
            due(of + "the next place", x.put(m, Dues.DROP, 0), 7);
            due(of + "claims", claimsTaken(x, m, 0), 5);
            due(of + "terms of steps", termsTaken(x, m, 0, 0), 2);
            due(of + "terms of words", termsTaken(x, m, 0, 1), 3);
            due(of + "cuts", cutsTaken(x, m), 5);
        }
    }

    private static int claimsTaken(CostChecker x, int m, int place) {
        int taken = 0;
        while (taken < 10 && x.claim(m, place, 0, 1, 1000)) {
            taken++;
        }
        return taken;
    }

    private static int termsTaken(CostChecker x, int m, int place, int what) {
        int taken = 0;
        while (taken < 10 && x.term(m, place, what, 1, Dues.side(0, 1))) {
            taken++;
        }
        return taken;
    }

    private static int cutsTaken(CostChecker x, int m) {
        int taken = 0;
        for (int place = 23; place >= 0; place--) {
            taken += x.cut(m, place) ? 1 : 0;
        }
        return taken;
    }

    private static int instructionsTaken(CostChecker x, int m) {
        int taken = 0;
        while (taken < 30 && x.put(m, Dues.UP, 0) == taken) {
            taken++;
        }
        return taken;
    }

    // Promise 1: "No instructions, no claims; each method has its cut at place 0 with potentials 0 without terms."

    private static void newObjectIsEmpty() {
        CostChecker x = new CostChecker();
        for (int m = 0; m < 4; m++) {
            due("new: no instructions in " + m, x.run(m, 0, 0, 0), NONE);
            due("new: room for all instructions in " + m, instructionsTaken(x, m), 24);
            due("new: no claims in " + m, claimsTaken(x, m, 0), 6);
            due("new: no terms of steps in " + m, termsTaken(x, m, 0, 0), 3);
            due("new: no terms of words in " + m, termsTaken(x, m, 0, 1), 3);
            due("new: room for cuts in " + m, cutsTaken(x, m), 5);
        }
    }

    private static void newObjectHasOneCut() {
        CostChecker x = new CostChecker();
        for (int m = 0; m < 4; m++) {
            due("new: a cut at place 0 of " + m, x.cut(m, 0), false);
            due("new: its base can be set in " + m, x.base(m, 0, 1, 0), true);
            for (int place = 1; place < 24; place++) {
                due("new: no cut at place " + place + " of " + m, x.base(m, place, 0, 0), false);
            }
        }
        CostChecker potentials = new CostChecker();
        for (int m = 0; m < 4; m++) {
            Dues.write(potentials, m, Dues.PUSH, 0, Dues.RETURN, 0);
            due("new: 0 does not pay 2 steps in " + m, potentials.check(m), 9);
            potentials.base(m, 0, 0, 2);
            due("new: 0 pays no words in " + m, potentials.check(m), 0);
            due("new: words are 0 in " + m, potentials.bound(m, 1, 9, 8, 7), 0);
            due("new: steps have no terms in " + m, potentials.bound(m, 0, 9, 8, 7), 2);
        }
    }

    // Promise 2: "Appends an instruction to method m: its place. NONE, when there is no such method, it has
    // 24, kind is not 0 .. 14, or n is not -1000 .. 1000."

    private static void putTakes24() {
        for (int m = 0; m < 4; m++) {
            CostChecker x = new CostChecker();
            for (int place = 0; place < 22; place++) {
                due("put: place " + place + " of " + m, x.put(m, Dues.UP, 1), place);
            }
            due("put: place 22 of " + m, x.put(m, Dues.LOAD, 0), 22);
            due("put: place 23 of " + m, x.put(m, Dues.RETURN, 0), 23);
            due("put: a 25th of " + m, x.put(m, Dues.UP, 1), NONE);
            due("put: the 24 are run in " + m, x.run(m, 0, 0, 0), 1);
            due("put: 24 steps in " + m, x.ran(0), 24);
            due("put: of each once in " + m, x.ran(3), 22);
            due("put: a full method leaves room in another", x.put((m + 1) % 4, Dues.UP, 1), 0);
        }
    }

    private static void putRefuses() {
        CostChecker x = counting();
        refused("put: method", 0, 3, NONE, m -> x.put(m, 0, 0));
        for (int m = 0; m < 4; m++) {
            int method = m;
            refused("put: kind", 0, 14, NONE, kind -> x.put(method, kind, 0));
            refused("put: n", -1000, 1000, NONE, n -> x.put(method, 0, n));
        }
        unchanged("put", x);
        CostChecker full = new CostChecker();
        writeCounting(full, 2);
        for (int place = 7; place < 24; place++) {
            full.put(2, Dues.UP, 0);
        }
        due("put: the test's own full method", full.check(2), 0);
        due("put: refused when it is full", full.put(2, Dues.UP, 0), NONE);
        due("put: a refused one leaves it accepted", full.accepted(2), true);
        CostChecker numbers = Dues.with(Dues.PUSH, -1000, Dues.PUSH, 1000, Dues.SUB, 0, Dues.RETURN, 0);
        due("put: n at its edges is run", numbers.run(0, 0, 0, 0), 1);
        due("put: n at its edges", numbers.ran(3), -2000);
    }

    // "(Places, locals and methods may be such that there are none.)"

    private static void putTakesPlacesLocalsAndMethodsThatAreNone() {
        int[] kinds = {Dues.LOAD, Dues.STORE, Dues.GOTO, Dues.IFLESS, Dues.IFNOT, Dues.CALL};
        int[] numbers = {-1000, -1, 4, 24, 1000};
        for (int kind : kinds) {
            CostChecker x = new CostChecker();
            for (int i = 0; i < numbers.length; i++) {
                due("put: kind " + kind + " with n " + numbers[i], x.put(1, kind, numbers[i]), i);
            }
        }
        CostChecker itself = new CostChecker();
        due("put: a CALL of itself", itself.put(2, Dues.CALL, 2), 0);
        due("put: a CALL of a higher one", itself.put(2, Dues.CALL, 3), 1);
        due("put: a CALL of an empty one", itself.put(2, Dues.CALL, 1), 2);
    }

    // Promise 3: "Takes all instructions, cuts, claims and potentials of method m away, so that it is as at
    // first: true; false when there is no such method."

    /** A method with all instructions, cuts, claims and terms that it can have. */
    private static CostChecker full(int m) {
        CostChecker x = new CostChecker();
        instructionsTaken(x, m);
        cutsTaken(x, m);
        for (int place = 0; place < 24; place++) {
            for (int what = 0; what < 2; what++) {
                x.base(m, place, what, -10000);
                termsTaken(x, m, place, what);
            }
            claimsTaken(x, m, place);
        }
        return x;
    }

    private static void clearMakesAFullMethodAsAtFirst() {
        for (int m = 0; m < 4; m++) {
            CostChecker x = full(m);
            due("clear: a full one, " + m, x.clear(m), true);
            due("clear: no instructions in " + m, x.check(m), 2);
            due("clear: depth of " + m, x.depth(m), 0);
            due("clear: not run, " + m, x.run(m, 0, 0, 0), NONE);
            Dues.write(x, m, Dues.PUSH, 0, Dues.RETURN, 0);
            due("clear: potentials are 0 in " + m, x.check(m), 9);
            due("clear: one with two instructions, " + m, x.clear(m), true);
            due("clear: room for instructions in " + m, instructionsTaken(x, m), 24);
            due("clear: room for claims in " + m, claimsTaken(x, m, 0), 6);
            due("clear: room for terms of steps in " + m, termsTaken(x, m, 0, 0), 3);
            due("clear: room for terms of words in " + m, termsTaken(x, m, 0, 1), 3);
            due("clear: room for cuts in " + m, cutsTaken(x, m), 5);
            due("clear: one that is cleared, " + m, x.clear(m) && x.clear(m), true);
        }
    }

    private static void clearRefuses() {
        CostChecker x = counting();
        refused("clear: method", 0, 3, 0, m -> number(x.clear(m)));
        unchanged("clear", x);
    }

    // Promise 4: "Makes a cut, without claims, with potentials 0: true. False when there is no such method or
    // place is not 0 .. 23, there is a cut at that place, or there are 6."

    private static void cutTakesPlaces0To23() {
        for (int place = 1; place < 24; place++) {
            CostChecker x = new CostChecker();
            int m = place % 4;
            due("cut: place " + place + " without an instruction", x.cut(m, place), true);
            due("cut: place " + place + " again", x.cut(m, place), false);
            due("cut: claims at " + place, claimsTaken(x, m, place), 6);
            due("cut: terms at " + place, termsTaken(x, m, place, 0) + termsTaken(x, m, place, 1), 6);
            due("cut: place 0 is one already", x.cut(m, 0), false);
        }
    }

    private static void cutRefusesASeventh() {
        CostChecker x = new CostChecker();
        for (int m = 0; m < 4; m++) {
            for (int place = 19; place < 24; place++) {
                due("cut: number " + (place - 17) + " of " + m, x.cut(m, place), true);
            }
            due("cut: a seventh of " + m, x.cut(m, 1), false);
            due("cut: the seventh is not there in " + m, x.base(m, 1, 0, 0), false);
            due("cut: the sixth is there in " + m, x.base(m, 23, 0, 0), true);
            due("cut: again when there are 6 in " + m, x.cut(m, 23), false);
        }
    }

    private static void cutRefuses() {
        CostChecker x = counting();
        refused("cut: method", 0, 3, 0, m -> number(x.cut(m, 1)));
        for (int m = 0; m < 4; m++) {
            int method = m;
            refused("cut: place", 0, 23, 0, place -> number(x.cut(method, place)));
            due("cut: place 0 of " + m, x.cut(m, 0), false);
        }
        unchanged("cut", x);
        CostChecker kept = Dues.with(Dues.GOTO, 1, Dues.PUSH, 0, Dues.RETURN, 0);
        kept.cut(0, 1);
        kept.base(0, 1, 0, 2);
        kept.base(0, 0, 0, 3);
        kept.claim(0, 1, 0, 1, 0);
        kept.claim(0, 0, 0, 1, 0);
        due("cut: the test's own", kept.check(0), 0);
        due("cut: one that is there", kept.cut(0, 1), false);
        due("cut: it keeps its potentials", kept.check(0), 0);
        due("cut: it keeps its claims", claimsTaken(kept, 0, 1), 5);
    }

    // Promise 5: "Adds a claim to a cut: true. False when there is no such cut, it has 6 claims, a or b is not
    // 0 .. 4, both are the same, or c is not -1000 .. 1000."

    private static void claimTakes6() {
        CostChecker x = new CostChecker();
        for (int m = 0; m < 4; m++) {
            x.cut(m, 23);
            int[] places = {0, 23};
            for (int place : places) {
                for (int i = 0; i < 6; i++) {
                    int c = i % 2 == 0 ? 1000 : -1000;
                    due("claim: number " + i + " at " + place + " of " + m, x.claim(m, place, 4, 0, c), true);
                }
                due("claim: a seventh at " + place + " of " + m, x.claim(m, place, 4, 0, 0), false);
            }
        }
        for (int a = 0; a < 5; a++) {
            for (int b = 0; b < 5; b++) {
                CostChecker each = new CostChecker();
                due("claim: " + a + " and " + b, each.claim(0, 0, a, b, 0), a != b);
            }
        }
        // The sixth claim is the one that counts, a seventh does not: 0 - 1 <= 0 is needed.
        CostChecker sixth = Dues.with(Dues.PUSH, 0, Dues.RETURN, 0);
        sixth.base(0, 0, 0, 2);
        sixth.term(0, 0, 0, 1, Dues.side(1, 0));
        for (int i = 0; i < 5; i++) {
            sixth.claim(0, 0, 0, 1, 1);
        }
        due("claim: five of them are too little", sixth.check(0), 9);
        due("claim: the sixth", sixth.claim(0, 0, 0, 1, 0), true);
        due("claim: the sixth counts", sixth.check(0), 0);
        due("claim: the seventh is refused", sixth.claim(0, 0, 0, 1, -5), false);
        due("claim: the seventh does not count", sixth.bound(0, 0, 3, 3, 0), 2);
        due("claim: the sixth is asked of the arguments", sixth.bound(0, 0, 4, 3, 0), NONE);
    }

    private static void claimRefuses() {
        CostChecker x = counting();
        refused("claim: method", 0, 3, 0, m -> number(x.claim(m, 0, 0, 1, -9)));
        for (int m = 0; m < 4; m++) {
            int method = m;
            refused("claim: a", 0, 4, 0, a -> number(x.claim(method, 0, a, 1, -9)));
            refused("claim: b", 0, 4, 0, b -> number(x.claim(method, 0, 0, b, -9)));
            refused("claim: c", -1000, 1000, 0, c -> number(x.claim(method, 0, 0, 1, c)));
            refused("claim: place", 0, 0, 0, place -> number(x.claim(method, place, 0, 1, -9)));
            due("claim: both are the same", x.claim(m, 0, m, m, -9), false);
        }
        unchanged("claim", x);
        CostChecker edges = Dues.with(Dues.PUSH, 0, Dues.RETURN, 0);
        edges.base(0, 0, 0, 2);
        edges.claim(0, 0, 0, 1, -1000);
        edges.claim(0, 0, 2, 1, 1000);
        due("claim: c at its edges", edges.check(0), 0);
        due("claim: -1000 and 1000 hold", edges.bound(0, 0, 0, 1000, 2000), 2);
        due("claim: -999 is too great", edges.bound(0, 0, 1, 1000, 2000), NONE);
        due("claim: 1001 is too great", edges.bound(0, 0, 0, 1000, 2001), NONE);
    }

    // Promise 6: "The base of a potential (what 0 or 1) of a cut becomes base: true. False when there is no
    // such cut or potential, or base is not -10000 .. 10000."

    private static void baseTakesItsEdges() {
        for (int m = 0; m < 4; m++) {
            CostChecker x = new CostChecker();
            Dues.write(x, m, Dues.PUSH, 0, Dues.RETURN, 0);
            due("base: 10000 steps", x.base(m, 0, 0, 10000), true);
            due("base: 10000 words", x.base(m, 0, 1, 10000), true);
            due("base: 10000 is well", x.check(m), 0);
            due("base: bound of 10000 steps", x.bound(m, 0, 0, 0, 0), 10000);
            due("base: bound of 10000 words", x.bound(m, 1, 0, 0, 0), 10000);
            due("base: -10000 steps", x.base(m, 0, 0, -10000), true);
            due("base: -10000 is negative", x.check(m), 1);
            x.term(m, 0, 0, 10, Dues.side(0, 4));
            x.claim(m, 0, 4, 0, -1000);
            due("base: -10000 + 10 * 1000 is 0, not 2", x.check(m), 9);
            x.claim(m, 0, 4, 1, -1000);
            x.claim(m, 0, 1, 0, -1);
            due("base: -10000 + 10 * 1001", x.check(m), 0);
            due("base: bound with -10000", x.bound(m, 0, 1001, 1000, 0), 10);
        }
    }

    private static void baseRefuses() {
        CostChecker x = counting();
        refused("base: method", 0, 3, 0, m -> number(x.base(m, 0, 0, 77)));
        for (int m = 0; m < 4; m++) {
            int method = m;
            refused("base: potential", 0, 1, 0, what -> number(x.base(method, 0, what, 77)));
            refused("base: steps", -10000, 10000, 0, base -> number(x.base(method, 0, 0, base)));
            refused("base: words", -10000, 10000, 0, base -> number(x.base(method, 0, 1, base)));
            refused("base: place", 0, 0, 0, place -> number(x.base(method, place, 0, 77)));
        }
        unchanged("base", x);
    }

    // Promise 7: "False when there is no such cut or potential, it has 3 terms, k is not 1 .. 100, a or b is
    // not 0 .. 4, or both are the same. (side is 5 * a + b.)"

    private static void termTakes3() {
        for (int what = 0; what < 2; what++) {
            CostChecker x = Dues.with(Dues.PUSH, 0, Dues.RETURN, 0);
            x.claim(0, 0, 4, 0, 0);
            x.base(0, 0, 0, 2);
            for (int i = 0; i < 3; i++) {
                int k = i == 0 ? 1 : 100;
                due("term: number " + i + " of potential " + what, x.term(0, 0, what, k, Dues.side(0, 4)), true);
            }
            due("term: a fourth of potential " + what, x.term(0, 0, what, 1, Dues.side(0, 4)), false);
            due("term: three of them", x.check(0), 0);
            due("term: a fourth does not count", x.bound(0, what, 1000, 0, 0), 201000 + (what == 0 ? 2 : 0));
            due("term: the other potential has none", x.bound(0, 1 - what, 1000, 0, 0), what == 0 ? 0 : 2);
            due("term: the other potential has room", termsTaken(x, 0, 0, 1 - what), 3);
        }
    }

    private static void termRefuses() {
        CostChecker x = counting();
        refused("term: method", 0, 3, 0, m -> number(x.term(m, 0, 0, 1, 1)));
        for (int m = 0; m < 4; m++) {
            int method = m;
            refused("term: potential", 0, 1, 0, what -> number(x.term(method, 0, what, 1, 1)));
            refused("term: k", 1, 100, 0, k -> number(x.term(method, 0, 0, k, 1)));
            refused("term: side", 0, 24, 0, side -> number(x.term(method, 0, 1, 1, side)));
            refused("term: place", 0, 0, 0, place -> number(x.term(method, place, 0, 1, 1)));
            due("term: both are the same", x.term(m, 0, 1, 1, Dues.side(m, m)), false);
            due("term: both are side 4", x.term(m, 0, 1, 1, 24), false);
        }
        unchanged("term", x);
    }

    // Promise 8: "2 when it has no instructions; NONE when there is no such method."

    private static void checkOfNoInstructions() {
        for (int m = 0; m < 4; m++) {
            CostChecker x = new CostChecker();
            due("check: no instructions in " + m, x.check(m), 2);
            x.base(m, 0, 1, -1);
            due("check: no instructions, and negative, in " + m, x.check(m), 2);
            x.cut(m, 23);
            x.claim(m, 0, 0, 1, -1);
            x.claim(m, 0, 1, 0, -1);
            due("check: no instructions, and contradicted, in " + m, x.check(m), 2);
            due("check: not accepted, " + m, x.accepted(m), false);
        }
    }

    private static void checkOfNoMethod() {
        CostChecker x = counting();
        refused("check: method", 0, 3, NONE, x::check);
        unchanged("check", x);
    }

    // "0 when all is well; otherwise 100 times the place of the cut + the reason"

    private static void checkTellsThePlace() {
        for (int place = 2; place < 24; place++) {
            CostChecker x = new CostChecker();
            Dues.write(x, 3, Dues.PUSH, 0, Dues.RETURN, 0);
            for (int i = 2; i < 24; i++) {
                x.put(3, Dues.DROP, 0);
            }
            x.base(3, 0, 0, 2);
            due("check: all is well", x.check(3), 0);
            x.cut(3, place);
            due("check: cramped at " + place, x.check(3), 100 * place + 2);
            x.base(3, place, 1, -1);
            due("check: negative at " + place, x.check(3), 100 * place + 1);
            x.base(3, 0, 0, -1);
            due("check: negative at place 0", x.check(3), 1);
        }
    }

    // "A method is ACCEPTED when its latest check answered 0 and neither it nor a lower method was changed
    // after that (by a call of put, clear, cut, claim, base or term that was not refused)."

    private static boolean change(CostChecker x, int m, int kind) {
        switch (kind) {
            case 0:
                return x.put(m, Dues.DROP, 0) != NONE;
            case 1:
                return x.clear(m);
            case 2:
                return x.cut(m, 23);
            case 3:
                return x.claim(m, 0, 0, 1, 1000);
            case 4:
                return x.base(m, 0, 0, 5);
            default:
                return x.term(m, 0, 1, 1, Dues.side(1, 0));
        }
    }

    private static void acceptedUntilAChange() {
        for (int kind = 0; kind < 6; kind++) {
            for (int changed = 0; changed < 4; changed++) {
                CostChecker x = counting();
                due("accepted: the change is made", change(x, changed, kind), true);
                for (int m = 0; m < 4; m++) {
                    due("accepted: " + m + " behind change " + kind + " of " + changed, x.accepted(m), m < changed);
                    due("accepted: bound of " + m + " behind it", x.bound(m, 0, 2, 7, 0), m < changed ? 30 : NONE);
                }
            }
        }
    }

    private static void acceptedByTheLatestCheck() {
        CostChecker x = new CostChecker();
        writeCounting(x, 1);
        due("accepted: never checked", x.accepted(1), false);
        due("accepted: answered 0", x.check(1), 0);
        due("accepted: by a check", x.accepted(1), true);
        x.put(0, Dues.DROP, 0);
        due("accepted: a lower one that is not called was changed", x.accepted(1), false);
        due("accepted: answered 0 again", x.check(1), 0);
        due("accepted: by the latest check, a lower one being wrong", x.accepted(1), true);
        due("accepted: the check of a lower one is no change", x.check(0), 2);
        due("accepted: it stays", x.accepted(1), true);
        x.base(1, 0, 0, 4);
        due("accepted: answered 9", x.check(1), 9);
        due("accepted: not by a check that answered 9", x.accepted(1), false);
        x.base(1, 0, 0, 5);
        due("accepted: not before it is checked again", x.accepted(1), false);
    }

    // Promise 9: "false when there is no such one"

    private static void acceptedOfNoMethod() {
        CostChecker x = counting();
        refused("accepted: method", 0, 3, 0, m -> number(x.accepted(m)));
        unchanged("accepted", x);
    }

    // Promise 10: "NONE when there is no such method or potential, the method is not accepted, an argument is
    // not -1000000 .. 1000000, or a claim at place 0 does not hold of them (and 0 for local 3)."

    private static void boundOfArgumentsAtTheirEdges() {
        CostChecker x = Dues.with(Dues.PUSH, 0, Dues.RETURN, 0);
        x.base(0, 0, 0, 10000);
        for (int i = 0; i < 3; i++) {
            x.term(0, 0, 0, 100, Dues.side(0, 1));
        }
        x.term(0, 0, 1, 1, Dues.side(4, 2));
        x.claim(0, 0, 1, 0, 0);
        x.claim(0, 0, 2, 4, 0);
        due("bound: the test's own", x.check(0), 0);
        due("bound: the greatest there is", x.bound(0, 0, MOST, -MOST, -MOST), 600010000L);
        due("bound: words of -1000000", x.bound(0, 1, MOST, -MOST, -MOST), MOST);
        due("bound: all at the upper edge", x.bound(0, 0, MOST, MOST, 0), 10000);
        due("bound: all at the lower edge", x.bound(0, 0, -MOST, -MOST, -MOST), 10000);
        for (int what = 0; what < 2; what++) {
            int potential = what;
            refused("bound: x", -MOST, MOST, NONE, v -> x.bound(0, potential, v, -MOST, 0));
            refused("bound: y", -MOST, MOST, NONE, v -> x.bound(0, potential, MOST, v, 0));
            refused("bound: z", -MOST, MOST, NONE, v -> x.bound(0, potential, 0, 0, v));
        }
    }

    private static void boundOfClaimsAtTheirEdges() {
        for (int a = 0; a < 5; a++) {
            for (int b = 0; b < 5; b++) {
                if (a == b) {
                    continue;
                }
                CostChecker x = Dues.with(Dues.PUSH, 0, Dues.RETURN, 0);
                x.base(0, 0, 0, 2);
                int[] values = {40, 300, 7, 0, 0};
                int difference = values[a] - values[b];
                x.claim(0, 0, a, b, difference);
                x.check(0);
                due("bound: a claim of " + a + " and " + b + " just holds", x.bound(0, 0, 40, 300, 7), 2);
                x.claim(0, 0, a, b, difference - 1);
                x.check(0);
                due("bound: a claim of " + a + " and " + b + " just not", x.bound(0, 0, 40, 300, 7), NONE);
            }
        }
    }

    private static void boundRefuses() {
        CostChecker x = counting();
        refused("bound: method", 0, 3, NONE, m -> x.bound(m, 0, 2, 7, 0));
        for (int m = 0; m < 4; m++) {
            int method = m;
            refused("bound: potential", 0, 1, NONE, what -> x.bound(method, what, 2, 7, 0));
        }
        unchanged("bound", x);
        CostChecker never = new CostChecker();
        writeCounting(never, 0);
        due("bound: not checked", never.bound(0, 0, 2, 7, 0), NONE);
        due("bound: of an empty one", never.bound(1, 0, 2, 7, 0), NONE);
        never.base(0, 0, 0, 4);
        never.check(0);
        due("bound: not accepted", never.bound(0, 0, 2, 7, 0), NONE);
    }

    // Promise 11: "those to methods without instructions or not of less number do not count; 0 when it has no
    // instructions; NONE when there is no such one."

    private static void depthAtItsEdges() {
        CostChecker x = counting();
        refused("depth: method", 0, 3, NONE, x::depth);
        unchanged("depth", x);
        for (int m = 0; m < 4; m++) {
            for (int called = -1; called < 5; called++) {
                CostChecker one = new CostChecker();
                due("depth: no instructions in " + m, one.depth(m), 0);
                one.put(m, Dues.CALL, called);
                due("depth: " + m + " calls " + called + " without instructions", one.depth(m), 1);
                for (int other = 0; other < 4; other++) {
                    one.put(other, Dues.RETURN, 0);
                }
                due("depth: " + m + " calls " + called, one.depth(m), called >= 0 && called < m ? 2 : 1);
            }
        }
        CostChecker all = new CostChecker();
        for (int m = 0; m < 4; m++) {
            all.put(m, Dues.CALL, m - 1);
            due("depth: a chain of " + (m + 1), all.depth(m), m + 1);
        }
        all.clear(1);
        due("depth: the chain is broken", all.depth(3), 2);
    }

    // Promise 12: "The next input for READ becomes v, behind those that are there, at most 12: true; false when
    // there are 12, or v is not -1000000 .. 1000000."

    /** Method 0 returns the input with this number, counted from 0. */
    private static void writeReading(CostChecker x, int number) {
        x.clear(0);
        for (int i = 0; i < number; i++) {
            Dues.write(x, 0, Dues.READ, 0, Dues.STORE, 3);
        }
        Dues.write(x, 0, Dues.READ, 0, Dues.RETURN, 0);
    }

    private static void feedTakes12() {
        CostChecker x = new CostChecker();
        for (int read = 0; read < 11; read++) {
            writeReading(x, read);
            for (int i = 0; i < 12; i++) {
                due("feed: number " + i, x.feed(100 + i), true);
            }
            due("feed: a thirteenth", x.feed(99), false);
            due("feed: run", x.run(0, 0, 0, 0), 1);
            due("feed: read " + read, x.ran(3), 100 + read);
        }
        // A loop reads as often as local 1 says, and returns what it read last.
        CostChecker loop = Dues.with(Dues.READ, 0, Dues.STORE, 3, Dues.UP, 1, Dues.LOAD, 0, Dues.LOAD, 1, Dues.IFLESS, 0,
            Dues.LOAD, 3, Dues.RETURN, 0);
        for (int read = 11; read < 15; read++) {
            for (int i = 0; i < 13; i++) {
                due("feed: " + i + " of 13", loop.feed(101 + i), i < 12);
            }
            loop.run(0, 0, read, 0);
            due("feed: what is read as number " + read, loop.ran(3), read <= 12 ? 100 + read : 0);
        }
    }

    private static void feedTakesItsEdges() {
        CostChecker x = Dues.with(Dues.READ, 0, Dues.RETURN, 0);
        refused("feed: v", -MOST, MOST, 0, v -> number(x.feed(v)));
        due("feed: 1000000", x.feed(MOST), true);
        due("feed: run", x.run(0, 0, 0, 0), 1);
        due("feed: the refused ones are not there", x.ran(3), MOST);
        due("feed: -1000000", x.feed(-MOST), true);
        x.run(0, 0, 0, 0);
        due("feed: the lower edge is read", x.ran(3), -MOST);
        for (int i = 0; i < 12; i++) {
            x.feed(i);
        }
        refused("feed: v when there are 12, ", -MOST, MOST, 0, v -> number(x.feed(v)));
        x.run(0, 0, 0, 0);
        due("feed: the first of 12", x.ran(3), 0);
    }

    // Promise 13: "Runs method m with three arguments; all inputs are used up by that, read or not. [..] NONE, and
    // nothing changes, when there is no such method, it has no instructions, or an argument is not
    // -1000000 .. 1000000."

    private static void runTakesItsEdges() {
        for (int local = 0; local < 3; local++) {
            CostChecker x = Dues.with(Dues.LOAD, local, Dues.RETURN, 0);
            due("run: upper edges", x.run(0, MOST, MOST, MOST), 1);
            due("run: upper edge of " + local, x.ran(3), MOST);
            due("run: lower edges", x.run(0, -MOST, -MOST, -MOST), 1);
            due("run: lower edge of " + local, x.ran(3), -MOST);
        }
    }

    private static void runRefusesAndNothingChanges() {
        CostChecker x = counting();
        for (int i = 0; i < 12; i++) {
            due("run: the test's own input", x.feed(50 + i), true);
        }
        refused("run: method", 0, 3, NONE, m -> x.run(m, 0, 0, 0));
        refused("run: x", -MOST, MOST, NONE, v -> x.run(0, v, 0, 0));
        refused("run: y", -MOST, MOST, NONE, v -> x.run(0, 0, v, 0));
        refused("run: z", -MOST, MOST, NONE, v -> x.run(0, 0, 0, v));
        due("run: the inputs are still there", x.feed(0), false);
        due("run: methods at once are as before", x.ran(2), 1);
        unchanged("run", x);
        x.clear(1);
        due("run: no instructions", x.run(1, 0, 0, 0), NONE);
        due("run: the inputs are there behind that", x.feed(0), false);
        due("run: steps are as before", x.ran(0), 30);
        Dues.write(x, 1, Dues.READ, 0, Dues.RETURN, 0);
        due("run: not refused", x.run(1, 0, 0, 0), 1);
        due("run: the first input is read", x.ran(3), 50);
    }

    private static void runUsesAllInputsUp() {
        // Each way to end: 1 returned, 2 trapped, 3 cramped, 4 too long; none of them reads.
        int[][] ways = {{Dues.PUSH, 0, Dues.RETURN, 0}, {Dues.PUSH, -1, Dues.NEW, 0}, {Dues.DROP, 0}, {Dues.GOTO, 0}};
        for (int end = 1; end < 5; end++) {
            CostChecker x = Dues.with(ways[end - 1]);
            Dues.write(x, 1, Dues.READ, 0, Dues.RETURN, 0);
            for (int i = 0; i < 12; i++) {
                x.feed(9);
            }
            due("run: ends with " + end, x.run(0, 0, 0, 0), end);
            for (int i = 0; i < 13; i++) {
                due("run: room for input " + i + " behind end " + end, x.feed(20 + i), i < 12);
            }
            x.run(1, 0, 0, 0);
            due("run: the new input is read behind end " + end, x.ran(3), 20);
            x.run(1, 0, 0, 0);
            due("run: 0 when there is none any more", x.ran(3), 0);
        }
    }

    // Promise 14: "what it returned (0 if it did not end with 1). All are 0 before the first run; NONE for
    // another what."

    private static void ranBeforeAndBehind() {
        CostChecker x = new CostChecker();
        Dues.write(x, 0, Dues.PUSH, 5, Dues.NEW, 0, Dues.LOAD, 0, Dues.RETURN, 0);
        Dues.write(x, 1, Dues.DROP, 0);
        x.check(0);
        x.run(0, MOST + 1, 0, 0);
        for (int what = 0; what < 4; what++) {
            due("ran: " + what + " before the first run", x.ran(what), 0);
        }
        refused("ran: what", 0, 3, NONE, x::ran);
        x.run(0, 44, 0, 0);
        int[] returned = {4, 7, 1, 44};
        for (int what = 0; what < 4; what++) {
            due("ran: " + what + " of a run that returned", x.ran(what), returned[what]);
        }
        refused("ran: what behind a run", 0, 3, NONE, x::ran);
        x.run(1, 44, 0, 0);
        int[] cramped = {1, 0, 1, 0};
        for (int what = 0; what < 4; what++) {
            due("ran: " + what + " of a run that did not", x.ran(what), cramped[what]);
        }
    }

    // "An object is used for at most 512 calls after it has been made"

    private static void call512() {
        CostChecker x = new CostChecker();
        writeCounting(x, 0);
        int calls = 10;
        while (calls < 511) {
            due("call " + calls + ": check", x.check(0), 0);
            due("call " + calls + ": run", x.run(0, calls % 50, 100, 0), 1);
            due("call " + calls + ": steps", x.ran(0), 5 + 5 * (100 - calls % 50));
            calls += 3;
        }
        due("call 512", x.bound(0, 0, 0, 100, 0), 505);
    }
}
