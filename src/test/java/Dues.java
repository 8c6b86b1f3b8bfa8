/** Counts the answers that are not as due, and has the words in which tests write programs. */
final class Dues {
    static final int PUSH = 0;
    static final int LOAD = 1;
    static final int STORE = 2;
    static final int ADD = 3;
    static final int SUB = 4;
    static final int UP = 5;
    static final int UP_1 = 6;
    static final int GOTO = 7;
    static final int IFLESS = 8;
    static final int IFNOT = 9;
    static final int NEW = 10;
    static final int CALL = 11;
    static final int RETURN = 12;
    static final int READ = 13;
    static final int DROP = 14;

    private int wrong;
    private int asked;

    void due(String what, long got, long want) {
        asked++;
        if (got != want) {
            wrong++;
            System.out.println(what + " answered " + got + ", due is " + want);
        }
    }

    void due(String what, boolean got, boolean want) {
        due(what, got ? 1 : 0, want ? 1 : 0);
    }

    /** Prints the sum of what was asked, and ends the program with 1 if an answer was wrong. */
    void close() {
        System.out.println(asked + " answers, " + wrong + " not as due");
        if (asked == 0 || wrong != 0) {
            System.exit(1);
        }
    }

    /** Appends instructions, each written as its kind and its number. */
    static void write(CostChecker x, int m, int... code) {
        for (int i = 0; i + 1 < code.length; i += 2) {
            if (x.put(m, code[i], code[i + 1]) == CostChecker.NONE) {
                throw new IllegalStateException("the test's own program is refused");
            }
        }
    }

    static CostChecker with(int... code) {
        CostChecker x = new CostChecker();
        write(x, 0, code);
        return x;
    }

    /** The side of term() for the difference a - b. */
    static int side(int a, int b) {
        return 5 * a + b;
    }
}
