/**
 * The boundary cases that the section 'Terms' names and that MachineTest and CheckingTest leave: what
 * just goes on and what just ends a run, what just follows and what just goes wrong on a path.
 */
public final class TermBoundariesTest {
    private static final Dues DUES = new Dues();
    private static final int MOST = 1000000;
    private static final int[] TAKES = {0, 0, 1, 2, 2, 0, 0, 0, 2, 2, 1, 3, 1, 0, 1};

    public static void main(String[] args) {
        fullMethodIsRun();
        eachRunBeginsAnew();
        eachMethodHasItsOwnSixValues();
        growingTraps();
        valuesAtTheirEdgesAreKept();
        wordsOfAllMethodsCount();
        step3000();
        step3000InACall();
        ringsOfClaims();
        noChain();
        leastOfEachDifference();
        cutBehindTheInstructions();
        tooFewValuesOnAPath();
        tooManyValuesOnAPath();
        strangeLocalsOnAPath();
        strangeCallsOnAPath();
        fullMethodIsChecked();
        parting40();
        path51();
        openPartings();
        valuesAtACut();
        widthOfChains();
        claimsOfACalledMethod();
        sideWithItself();
        wordsAndStepsAreShownApart();
        DUES.close();
    }

    private static void due(String what, long got, long want) {
        DUES.due(what, got, want);
    }

    private static void ends(String what, CostChecker x, int m, int end, int steps) {
        due(what + ": end", x.run(m, 0, 0, 0), end);
        due(what + ": steps", x.ran(0), steps);
    }

    // The machine.

    // "METHODS 0 .. 3 have each a list of at most 24 INSTRUCTIONS, at PLACES 0, 1, .."

    private static void fullMethodIsRun() {
        for (int m = 0; m < 4; m++) {
            CostChecker x = new CostChecker();
            for (int place = 0; place < 24; place++) {
                x.put(m, Dues.UP, 1);
            }
            ends("nothing behind place 23 of " + m, x, m, 3, 24);
            x.clear(m);
            x.put(m, Dues.PUSH, 5);
            x.put(m, Dues.GOTO, 23);
            for (int place = 2; place < 23; place++) {
                x.put(m, Dues.DROP, 0);
            }
            x.put(m, Dues.RETURN, 0);
            ends("GOTO 23 in " + m, x, m, 1, 3);
            x.clear(m);
            for (int place = 0; place < 24; place++) {
                x.put(m, Dues.GOTO, 24);
            }
            ends("GOTO 24 in " + m, x, m, 3, 1);
        }
    }

    // "local 3 is 0, its stack is empty"

    private static void eachRunBeginsAnew() {
        CostChecker x = Dues.with(Dues.LOAD, 3, Dues.PUSH, 9, Dues.STORE, 3, Dues.PUSH, 1, Dues.ADD, 0, Dues.RETURN, 0);
        for (int i = 0; i < 3; i++) {
            due("run " + i + " of the same", x.run(0, 0, 0, 0), 1);
            due("run " + i + ": local 3 is 0 at first", x.ran(3), 1);
        }
        CostChecker left = Dues.with(Dues.PUSH, 1, Dues.PUSH, 2, Dues.GOTO, 99);
        Dues.write(left, 1, Dues.DROP, 0, Dues.PUSH, 0, Dues.RETURN, 0);
        ends("a run that leaves two values", left, 0, 3, 3);
        ends("the next one finds none", left, 1, 3, 1);
    }

    // "would have more than 6 behind it"; "whose stack and locals are its own"

    private static void eachMethodHasItsOwnSixValues() {
        CostChecker x = new CostChecker();
        for (int m = 0; m < 4; m++) {
            for (int i = 0; i < 6; i++) {
                x.put(m, Dues.PUSH, i);
            }
            if (m > 0) {
                Dues.write(x, m, Dues.CALL, m - 1, Dues.PUSH, 6, Dues.PUSH, 7);
            }
            x.put(m, Dues.RETURN, 0);
        }
        ends("six values in each of four methods", x, 3, 1, 4 * 7 + 3 * 3);
        due("six values in each of four methods: value", x.ran(3), 7);
        due("six values in each of four methods: at once", x.ran(2), 4);
        CostChecker seventh = Dues.with(Dues.PUSH, 0, Dues.RETURN, 0);
        for (int i = 0; i < 6; i++) {
            seventh.put(1, Dues.PUSH, i);
        }
        Dues.write(seventh, 1, Dues.CALL, 0, Dues.PUSH, 0, Dues.PUSH, 0, Dues.PUSH, 0, Dues.RETURN, 0);
        ends("three, the returned one and three more", seventh, 1, 3, 7 + 2 + 3);
    }

    // "a TRAP: 2, when a value would be less than -1000000 or more than 1000000"

    private static void growingTraps() {
        int[] kinds = {Dues.UP, Dues.UP_1};
        for (int local = 0; local < 2; local++) {
            for (int sign = -1; sign <= 1; sign += 2) {
                CostChecker x = Dues.with(kinds[local], 1000 * sign, Dues.LOAD, local, Dues.RETURN, 0);
                int edge = sign * (MOST - 1000);
                String what = "local " + local + " by " + 1000 * sign;
                due(what + " to the edge", x.run(0, edge, edge, 0), 1);
                due(what + " to the edge: value", x.ran(3), sign * MOST);
                due(what + " beyond it", x.run(0, edge + sign, edge + sign, 0), 2);
                due(what + " beyond it: steps", x.ran(0), 1);
                due(what + " beyond it: value", x.ran(3), 0);
            }
        }
        CostChecker other = Dues.with(Dues.UP, 1, Dues.LOAD, 1, Dues.RETURN, 0);
        due("the other local is at its edge", other.run(0, 0, MOST, MOST), 1);
    }

    private static void valuesAtTheirEdgesAreKept() {
        int[] edges = {-MOST, MOST};
        for (int edge : edges) {
            CostChecker x = Dues.with(Dues.LOAD, 0, Dues.LOAD, 1, Dues.SUB, 0, Dues.LOAD, 2, Dues.ADD, 0, Dues.RETURN, 0);
            Dues.write(x, 1, Dues.LOAD, 0, Dues.STORE, 3, Dues.LOAD, 3, Dues.READ, 0, Dues.READ, 0, Dues.CALL, 0, Dues.RETURN, 0);
            x.feed(edge);
            x.feed(edge);
            due("through a call and back", x.run(1, edge, 0, 0), 1);
            due("through a call and back: value", x.ran(3), edge);
            CostChecker twice = Dues.with(Dues.LOAD, 0, Dues.LOAD, 1, Dues.ADD, 0, Dues.RETURN, 0);
            due("twice the edge", twice.run(0, edge, edge, 0), 2);
            CostChecker apart = Dues.with(Dues.LOAD, 0, Dues.LOAD, 1, Dues.SUB, 0, Dues.RETURN, 0);
            due("from edge to edge", apart.run(0, edge, -edge, 0), 2);
            due("from 0 to the edge", apart.run(0, 0, edge, 0), 1);
            due("from 0 to the edge: value", apart.ran(3), -edge);
        }
    }

    // "more than 1000000000 words would be taken in all (no memory is taken then)"

    private static void wordsOfAllMethodsCount() {
        // Method 1 calls method 0, which has 11 NEWs, and then has 9 of its own: 48 steps a round.
        CostChecker x = new CostChecker();
        writeNews(x, 0, 11);
        Dues.write(x, 0, Dues.PUSH, 0, Dues.RETURN, 0);
        Dues.write(x, 1, Dues.LOAD, 0, Dues.LOAD, 1, Dues.LOAD, 1, Dues.CALL, 0, Dues.DROP, 0);
        writeNews(x, 1, 9);
        x.put(1, Dues.GOTO, 0);
        due("words of two methods", x.run(1, MOST - 2, 0, 0), 2);
        due("words of two methods: 1000 times 1000000", x.ran(1), 1000000000);
        due("words of two methods: the next NEW ends it", x.ran(0), 50 * 48 + 6);
    }

    private static void writeNews(CostChecker x, int m, int count) {
        for (int i = 0; i < count; i++) {
            Dues.write(x, m, Dues.LOAD, 0, Dues.NEW, 0);
        }
    }

    // "Before a step it ends as too LONG: 4, when 3000 were made."

    /** Makes 2998 steps when local 0 is 149 at first, 5 less for each that it is more, and comes to place 5. */
    private static void writeBurning(CostChecker x, int m) {
        Dues.write(x, m, Dues.LOAD, 0, Dues.PUSH, 748, Dues.IFNOT, 5, Dues.UP, 1, Dues.GOTO, 0);
    }

    private static void burns(String what, int end, int words, int... code) {
        CostChecker x = new CostChecker();
        writeBurning(x, 0);
        Dues.write(x, 0, code);
        due("step 3000, " + what + ": end", x.run(0, 149, 0, 0), end);
        due("step 3000, " + what + ": steps", x.ran(0), 3000);
        due("step 3000, " + what + ": words", x.ran(1), words);
    }

    private static void step3000() {
        burns("RETURN", 1, 0, Dues.PUSH, 0, Dues.RETURN, 0);
        burns("a TRAP", 2, 0, Dues.PUSH, -1, Dues.NEW, 0, Dues.PUSH, 0, Dues.RETURN, 0);
        burns("too few values", 3, 0, Dues.UP, 0, Dues.DROP, 0, Dues.PUSH, 0, Dues.RETURN, 0);
        burns("the last place", 3, 0, Dues.UP, 0, Dues.UP, 0);
        burns("a place that is not there", 3, 0, Dues.UP, 0, Dues.GOTO, -1);
        burns("words", 4, 7, Dues.PUSH, 5, Dues.NEW, 0, Dues.PUSH, 0, Dues.RETURN, 0);
        burns("and behind it a RETURN", 4, 0, Dues.UP, 0, Dues.PUSH, 0, Dues.RETURN, 0);
        burns("and behind it too few values", 4, 0, Dues.UP, 0, Dues.UP, 0, Dues.DROP, 0);
        burns("and behind it a TRAP", 4, 0, Dues.UP, 0, Dues.PUSH, -1, Dues.NEW, 0);
    }

    private static void step3000InACall() {
        // 4 steps to the call, 2993 to place 5 of the called one, and 3 to its RETURN.
        CostChecker x = new CostChecker();
        writeBurning(x, 0);
        Dues.write(x, 0, Dues.UP, 0, Dues.PUSH, 8, Dues.RETURN, 0);
        Dues.write(x, 1, Dues.LOAD, 0, Dues.LOAD, 1, Dues.LOAD, 2, Dues.CALL, 0);
        due("step 3000 returns from a call that is the last", x.run(1, 150, 0, 0), 3);
        due("step 3000 returns from a call that is the last: steps", x.ran(0), 3000);
        x.put(1, Dues.RETURN, 0);
        due("step 3000 returns from a call", x.run(1, 150, 0, 0), 4);
        due("step 3000 returns from a call: steps", x.ran(0), 3000);
        due("step 3000 returns from a call: value", x.ran(3), 0);
        due("five steps less", x.run(1, 151, 0, 0), 1);
        due("five steps less: steps", x.ran(0), 2996);
        due("five steps less: value", x.ran(3), 8);
        CostChecker calls = Dues.with(Dues.PUSH, 0, Dues.RETURN, 0);
        writeBurning(calls, 1);
        Dues.write(calls, 1, Dues.UP, 0, Dues.UP, 0, Dues.UP, 0, Dues.LOAD, 0, Dues.LOAD, 0, Dues.LOAD, 0, Dues.CALL, 0,
            Dues.RETURN, 0);
        due("step 3000 calls", calls.run(1, 150, 0, 0), 4);
        due("step 3000 calls: steps", calls.ran(0), 3000);
        due("step 3000 calls: methods at once", calls.ran(2), 2);
    }

    // Checking.

    private static void base(CostChecker x, int m, int place, int steps, int words) {
        if (!x.base(m, place, 0, steps) || !x.base(m, place, 1, words)) {
            throw new IllegalStateException("the test's own base is refused");
        }
    }

    // "What is known is CONTRADICTED when some bound of a - a is less than 0; at a cut where it is, nothing
    // goes wrong, and no path is followed."

    private static void ringsOfClaims() {
        for (int sides = 2; sides <= 5; sides++) {
            for (int first = 0; first < 5; first++) {
                for (int sum = -1; sum <= 0; sum++) {
                    CostChecker x = Dues.with(Dues.DROP, 0);
                    for (int i = 0; i < sides; i++) {
                        int a = (first + i) % 5;
                        int b = (first + (i + 1) % sides) % 5;
                        int c = i == 0 ? 999 : i == 1 ? sum - 999 : 0;
                        due("the test's own claim", x.claim(0, 0, a, b, c) ? 1 : 0, 1);
                    }
                    due("a ring of " + sides + " with the sum " + sum, x.check(0), sum < 0 ? 0 : 2);
                }
            }
        }
    }

    // "there is no bound when there is no chain"; "is less than 0, or has no least"

    private static void noChain() {
        int[] factors = {1, 2, 8, 16, 32, 64, 100};
        for (int k : factors) {
            for (int a = 0; a < 5; a++) {
                for (int b = 0; b < 5; b++) {
                    if (a == b) {
                        continue;
                    }
                    CostChecker x = Dues.with(Dues.PUSH, 0, Dues.RETURN, 0);
                    base(x, 0, 0, 10000, 0);
                    x.claim(0, 0, 0, 1, -5);
                    x.term(0, 0, 0, k, Dues.side(a, b));
                    boolean hasLeast = a == 1 && b == 0;
                    due(k + " times " + a + " - " + b, x.check(0), hasLeast ? 0 : 1);
                }
            }
        }
    }

    // "what is left of each, times the least of its difference if it is above 0 [..] must not be less than 0"

    private static void leastOfEachDifference() {
        for (int a = 0; a < 5; a++) {
            for (int b = 0; b < 5; b++) {
                if (a == b) {
                    continue;
                }
                // Both paths cost 5 steps, and all that pays for them is a - b.
                CostChecker x = Dues.with(Dues.READ, 0, Dues.READ, 0, Dues.IFLESS, 3, Dues.PUSH, 0, Dues.RETURN, 0);
                x.term(0, 0, 0, 1, Dues.side(a, b));
                x.claim(0, 0, b, a, -4);
                due("5 steps by " + a + " - " + b + ", which is 4 at least", x.check(0), 9);
                x.claim(0, 0, b, a, -5);
                due("5 steps by " + a + " - " + b + ", which is 5 at least", x.check(0), 0);
            }
        }
    }

    // "a place that is not there: when the path goes on at it, also at the beginning"; "of several at once the
    // one with the least number"

    private static void cutBehindTheInstructions() {
        CostChecker x = Dues.with(Dues.PUSH, 0, Dues.RETURN, 0);
        base(x, 0, 0, 2, 0);
        x.cut(0, 2);
        due("a cut just behind the instructions", x.check(0), 202);
        x.base(0, 2, 0, -1);
        due("a cut behind the instructions, negative", x.check(0), 201);
        x.base(0, 2, 0, 0);
        Dues.write(x, 0, Dues.GOTO, 0);
        due("an instruction is put there", x.check(0), 209);
        x.base(0, 2, 0, 3);
        due("its path ends before the cut at place 0", x.check(0), 0);
        x.cut(0, 23);
        due("a cut at the last place there can be", x.check(0), 2302);
        x.claim(0, 23, 0, 4, -1);
        x.claim(0, 23, 4, 0, 0);
        due("the same, contradicted", x.check(0), 0);
    }

    // "2 CRAMPED: where the machine would be, whatever the values are"

    /** Methods 0 and 1 of which the lower one is accepted, the higher one has plenty of potential. */
    private static CostChecker plenty() {
        CostChecker x = Dues.with(Dues.PUSH, 0, Dues.RETURN, 0);
        base(x, 0, 0, 2, 0);
        x.check(0);
        base(x, 1, 0, 10000, 10000);
        return x;
    }

    private static void tooFewValuesOnAPath() {
        for (int kind = 0; kind < TAKES.length; kind++) {
            for (int values = 0; values <= TAKES[kind]; values++) {
                CostChecker x = plenty();
                for (int i = 0; i < values; i++) {
                    x.put(1, Dues.PUSH, 1);
                }
                boolean goes = kind == Dues.GOTO || kind == Dues.IFLESS || kind == Dues.IFNOT;
                Dues.write(x, 1, kind, goes ? values + 1 : 0, Dues.PUSH, 0, Dues.RETURN, 0);
                due("a path with " + values + " values to kind " + kind, x.check(1), values < TAKES[kind] ? 2 : 0);
            }
        }
    }

    private static void tooManyValuesOnAPath() {
        int[] kinds = {Dues.PUSH, Dues.LOAD, Dues.READ};
        for (int kind : kinds) {
            for (int count = 6; count <= 7; count++) {
                CostChecker x = plenty();
                for (int i = 0; i < count; i++) {
                    x.put(1, kind, 0);
                }
                x.put(1, Dues.RETURN, 0);
                due("a path with " + count + " of kind " + kind, x.check(1), count > 6 ? 2 : 0);
            }
        }
    }

    private static void strangeLocalsOnAPath() {
        int[] locals = {-1000, -1, 0, 3, 4, 1000};
        for (int n : locals) {
            int want = n == 0 || n == 3 ? 0 : 2;
            CostChecker load = plenty();
            Dues.write(load, 1, Dues.LOAD, n, Dues.RETURN, 0);
            due("a path with LOAD " + n, load.check(1), want);
            CostChecker store = plenty();
            Dues.write(store, 1, Dues.PUSH, 0, Dues.STORE, n, Dues.PUSH, 0, Dues.RETURN, 0);
            due("a path with STORE " + n, store.check(1), want);
            CostChecker up = plenty();
            Dues.write(up, 1, Dues.UP, n, Dues.UP_1, n, Dues.PUSH, n, Dues.RETURN, n);
            due("a path with UP " + n + ", which means no local n", up.check(1), 0);
        }
    }

    private static void strangeCallsOnAPath() {
        int[] called = {-1000, -1, 0, 1, 2, 3, 4, 1000};
        for (int n : called) {
            CostChecker x = plenty();
            Dues.write(x, 1, Dues.PUSH, 0, Dues.PUSH, 0, Dues.PUSH, 0, Dues.CALL, n, Dues.RETURN, 0);
            Dues.write(x, 2, Dues.PUSH, 0, Dues.RETURN, 0);
            due("a path with CALL " + n, x.check(1), n == 0 ? 0 : 2);
            x.clear(0);
            due("a path with CALL " + n + ", method 0 without instructions", x.check(1), 2);
        }
    }

    private static void fullMethodIsChecked() {
        for (int m = 0; m < 4; m++) {
            CostChecker x = new CostChecker();
            for (int place = 0; place < 22; place++) {
                x.put(m, Dues.UP, 1);
            }
            Dues.write(x, m, Dues.PUSH, 0, Dues.RETURN, 0);
            x.base(m, 0, 0, 23);
            due("24 instructions in " + m + ", a step too few", x.check(m), 9);
            x.base(m, 0, 0, 24);
            due("24 instructions in " + m, x.check(m), 0);
            x.clear(m);
            for (int place = 0; place < 24; place++) {
                x.put(m, Dues.UP, 1);
            }
            x.base(m, 0, 0, 100);
            due("nothing behind place 23 of " + m + " on a path", x.check(m), 2);
        }
    }

    // "3 UNCUT: it has 40 instructions, did not end, and would go on with another one, which is there"

    /** A path whose instruction 40 is the parting at place 7, which goes on behind, to place 8. */
    private static CostChecker partingLast(int... behind) {
        CostChecker x = Dues.with(Dues.UP_1, 0, Dues.UP_1, 0, Dues.UP_1, 0, Dues.UP_1, 0,
            Dues.UP, 1, Dues.LOAD, 0, Dues.PUSH, 9, Dues.IFLESS, 4);
        Dues.write(x, 0, behind);
        base(x, 0, 0, 42, 0);
        x.claim(0, 0, 0, 4, 0);
        x.claim(0, 0, 4, 0, 0);
        return x;
    }

    private static void parting40() {
        CostChecker x = partingLast(Dues.PUSH, 0, Dues.RETURN, 0);
        due("a parting is number 40, and one more is there", x.check(0), 3);
        x.cut(0, 8);
        x.base(0, 8, 0, 2);
        due("a parting is number 40, and a cut is there", x.check(0), 0);
        x.base(0, 0, 0, 41);
        due("40 steps and 2 behind the cut", x.check(0), 9);
        due("a parting is number 40, and nothing is there", partingLast().check(0), 2);
        due("a parting is number 40, and RETURN on no value is there", partingLast(Dues.RETURN, 0).check(0), 3);
    }

    // "4 MANY: 50 paths of the cut came to an end before."

    /** A parting that goes to this place, behind it 2 * 5 * 5 paths of at most 40 instructions, with more values. */
    private static CostChecker fifty(int values, int place, int... end) {
        CostChecker x = new CostChecker();
        for (int i = 0; i < values; i++) {
            x.put(0, Dues.READ, 0);
        }
        Dues.write(x, 0, Dues.READ, 0, Dues.READ, 0, Dues.IFLESS, place);
        int first = values + 3;
        Dues.write(x, 0, Dues.READ, 0, Dues.READ, 0, Dues.IFLESS, first + 3);
        for (int i = 0; i < 4; i++) {
            Dues.write(x, 0, Dues.READ, 0, Dues.READ, 0, Dues.IFLESS, first + 15);
        }
        Dues.write(x, 0, Dues.UP, 1, Dues.LOAD, 0, Dues.PUSH, 2, Dues.IFLESS, first + 3);
        Dues.write(x, 0, end);
        base(x, 0, 0, 40, 0);
        x.claim(0, 0, 0, 4, 0);
        x.claim(0, 0, 4, 0, 0);
        return x;
    }

    private static void path51() {
        int[] returns = {Dues.PUSH, 0, Dues.RETURN, 0};
        due("path 51 comes to an end", fifty(0, 22, returns).check(0), 4);
        due("path 51 is cramped before its end", fifty(0, 23, returns).check(0), 2);
        due("path 51 goes to a place that is not there", fifty(0, 24, returns).check(0), 2);
        CostChecker dear = fifty(0, 24, returns);
        dear.base(0, 0, 0, 39);
        due("path 1 has 40 instructions", dear.check(0), 9);
        // A path to the cut at place 0 has a value on its stack: it is path 51, or path 2 without the others.
        due("path 51 comes to a cut with a value", fifty(1, 0, Dues.RETURN, 0).check(0), 4);
        CostChecker alone = Dues.with(Dues.READ, 0, Dues.READ, 0, Dues.READ, 0, Dues.IFLESS, 0, Dues.RETURN, 0);
        base(alone, 0, 0, 40, 0);
        due("path 2 comes to a cut with a value", alone.check(0), 7);
    }

    /** Twice six partings, all of which stand open when DROP finds no value, as instruction 40. */
    private static void openPartings() {
        CostChecker x = Dues.with(Dues.PUSH, 0);
        for (int i = 0; i < 6; i++) {
            Dues.write(x, 0, Dues.READ, 0, Dues.READ, 0, Dues.IFLESS, 19);
        }
        Dues.write(x, 0, Dues.DROP, 0, Dues.GOTO, 1);
        base(x, 0, 0, 100, 0);
        due("instruction 40 is cramped, behind 12 partings", x.check(0), 2);
        CostChecker more = Dues.with(Dues.PUSH, 0, Dues.UP, 0);
        for (int i = 0; i < 6; i++) {
            Dues.write(more, 0, Dues.READ, 0, Dues.READ, 0, Dues.IFLESS, 20);
        }
        Dues.write(more, 0, Dues.DROP, 0, Dues.GOTO, 2);
        base(more, 0, 0, 100, 0);
        due("instruction 41 would be", more.check(0), 3);
    }

    // "7 STACK: the stack is not empty at a cut (at a RETURN this doesn't matter)."

    private static void valuesAtACut() {
        for (int values = 0; values <= 6; values++) {
            CostChecker x = new CostChecker();
            x.put(0, Dues.UP, 0);
            for (int i = 0; i < values; i++) {
                x.put(0, Dues.PUSH, 0);
            }
            Dues.write(x, 0, Dues.GOTO, values + 2, Dues.PUSH, 0, Dues.RETURN, 0);
            base(x, 0, 0, 100, 0);
            x.cut(0, values + 2);
            x.base(0, values + 2, 0, 2);
            due("a cut with " + values + " values", x.check(0), values == 0 ? 0 : 7);
        }
        for (int values = 1; values <= 6; values++) {
            CostChecker x = new CostChecker();
            for (int i = 0; i < values; i++) {
                x.put(0, Dues.PUSH, 0);
            }
            x.put(0, Dues.RETURN, 0);
            base(x, 0, 0, 100, 0);
            due("a RETURN with " + values + " values", x.check(0), 0);
        }
    }

    // "5 WIDTH: at a NEW, w is NOTHING, or what is known does not bound its least by 0 or more."

    private static void widthOfChains() {
        for (int number = 5; number <= 6; number++) {
            // Local 2 is 3 at least, and local 0 is 2 more.
            CostChecker x = Dues.with(Dues.LOAD, 0, Dues.PUSH, number, Dues.SUB, 0, Dues.NEW, 0, Dues.PUSH, 0, Dues.RETURN, 0);
            base(x, 0, 0, 6, 1000);
            x.claim(0, 0, 0, 4, 100);
            x.claim(0, 0, 2, 0, -2);
            due("width: a chain that does not begin at side 4", x.check(0), 5);
            x.claim(0, 0, 4, 2, -3);
            due("width: at least 5 - " + number, x.check(0), number <= 5 ? 0 : 5);
        }
    }

    // "one of these, for the arguments and 0 for local 3, does not follow from what is known"

    private static void claimsOfACalledMethod() {
        for (int n = 999; n <= 1000; n++) {
            for (int more = 0; more <= 1; more++) {
                CostChecker x = Dues.with(Dues.PUSH, 0, Dues.RETURN, 0);
                base(x, 0, 0, 2, 0);
                x.claim(0, 0, 0, 4, n);
                x.claim(0, 0, 3, 1, n);
                x.claim(0, 0, 2, 0, -n);
                x.check(0);
                Dues.write(x, 1, Dues.PUSH, n, Dues.PUSH, -n, Dues.PUSH, 0, Dues.PUSH, more, Dues.ADD, 0, Dues.CALL, 0,
                    Dues.RETURN, 0);
                base(x, 1, 0, 100, 0);
                due("claims at " + n + " of a called method, z is " + more, x.check(1), more == 0 ? 0 : 6);
            }
        }
    }

    // "Terms of a side with itself are numbers alone."

    private static void sideWithItself() {
        CostChecker x = Dues.with(Dues.LOAD, 0, Dues.STORE, 1, Dues.UP_1, 3, Dues.PUSH, 0, Dues.RETURN, 0);
        x.cut(0, 3);
        x.claim(0, 3, 0, 1, 0);
        x.base(0, 3, 0, 2);
        x.term(0, 3, 0, 2, Dues.side(1, 0));
        base(x, 0, 0, 3 + 2 + 6 - 1, 0);
        due("2 * (local 0 + 3 - local 0) is 6, a step too few", x.check(0), 9);
        x.base(0, 0, 0, 3 + 2 + 6);
        due("2 * (local 0 + 3 - local 0) is 6", x.check(0), 0);
        x.claim(0, 3, 0, 1, -3);
        due("local 0 - (local 0 + 3) <= -3 follows", x.check(0), 0);
        x.claim(0, 3, 0, 1, -4);
        due("local 0 - (local 0 + 3) <= -4 does not", x.check(0), 8);
    }

    // "9 COST: for steps, then words"

    private static void wordsAndStepsAreShownApart() {
        CostChecker x = Dues.with(Dues.PUSH, 0, Dues.NEW, 0, Dues.PUSH, 0, Dues.RETURN, 0);
        int[] steps = {3, 4, 10000};
        int[] words = {1, 2, 10000};
        for (int s : steps) {
            for (int w : words) {
                base(x, 0, 0, s, w);
                due("4 steps by " + s + ", 2 words by " + w, x.check(0), s >= 4 && w >= 2 ? 0 : 9);
            }
        }
    }
}
