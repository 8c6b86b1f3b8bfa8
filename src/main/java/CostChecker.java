/**
 * Small methods for a machine with a stack, which can be run, and a checker of certificates for how
 * much they cost at most. The numbered promises are in the document DOC.md.
 */
public final class CostChecker {
    public static final int NONE = -1;

    private static final int METHODS = 4;
    private static final int MOST_INSTRUCTIONS = 24;
    private static final int KINDS = 15;
    private static final int LOCALS = 4;
    private static final int ARGUMENTS = 3;
    private static final int MOST_STACKED = 6;
    private static final int MOST_CUTS = 6;
    private static final int MOST_CLAIMS = 6;
    private static final int MOST_TERMS = 3;
    private static final int MOST_INPUTS = 12;

    private static final int MOST_NUMBER = 1000;
    private static final int MOST_BASE = 10000;
    private static final int MOST_FACTOR = 100;
    private static final int MOST_VALUE = 1000000;
    private static final int MOST_WORDS = 1000000000;
    private static final int MOST_STEPS = 3000;
    private static final int WORDS_BESIDE = 2;

    private static final int MOST_MADE = 40;
    private static final int MOST_ENDED = 50;
    // A parting takes two symbols off that two instructions put there: 40 hold at most 13 partings.
    private static final int MOST_PATHS = MOST_MADE / 3 + 1;

    private static final int PUSH = 0;
    private static final int LOAD = 1;
    private static final int STORE = 2;
    private static final int ADD = 3;
    private static final int SUB = 4;
    private static final int UP = 5;
    private static final int UP_1 = 6;
    private static final int GOTO = 7;
    private static final int IFLESS = 8;
    private static final int IFNOT = 9;
    private static final int NEW = 10;
    private static final int CALL = 11;
    private static final int RETURN = 12;
    private static final int READ = 13;
    private static final int DROP = 14;

    // How many values an instruction of each kind takes off the stack, and then puts on it.
    private static final int[] TAKES = {0, 0, 1, 2, 2, 0, 0, 0, 2, 2, 1, 3, 1, 0, 1};
    private static final int[] PUTS = {1, 1, 0, 1, 1, 0, 0, 0, 0, 0, 0, 1, 0, 1, 0};

    private static final int GOES_ON = 0;
    private static final int ENDS_RETURNED = 1;
    private static final int ENDS_TRAPPED = 2;
    private static final int ENDS_CRAMPED = 3;
    private static final int ENDS_LONG = 4;

    private static final int ALL_WELL = 0;
    private static final int NEGATIVE = 1;
    private static final int CRAMPED = 2;
    private static final int UNCUT = 3;
    private static final int MANY = 4;
    private static final int WIDTH = 5;
    private static final int CALLED = 6;
    private static final int STACK = 7;
    private static final int CLAIM = 8;
    private static final int COST = 9;
    private static final int ANSWER_PER_PLACE = 100;

    private static final int POTENTIALS = 2;
    private static final int STEPS = 0;
    private static final int WORDS = 1;

    private static final int SIDES = 5;
    private static final int ZERO = 4;
    private static final int NOTHING = -1;
    // Far above every sum that can come up, and far enough below the end of long to be added to.
    private static final long NO_BOUND = 1L << 60;

    private final Method[] methods;
    private final Machine machine;
    private final Checker checker;
    private final int[] arguments;

    public CostChecker() {
        Method[] made = new Method[METHODS];
        for (int m = 0; m < METHODS; m++) {
            made[m] = new Method(m);
        }
        methods = made;
        machine = new Machine(made);
        checker = new Checker(made);
        arguments = new int[SIDES];
    }

    public int put(int m, int kind, int n) {
        Method method = methodAt(m);
        if (method == null || !isBetween(kind, 0, KINDS - 1) || !isBetween(n, -MOST_NUMBER, MOST_NUMBER)) {
            return NONE;
        }
        return noteChange(m, method.append(kind, n)) ? method.length - 1 : NONE;
    }

    public boolean clear(int m) {
        Method method = methodAt(m);
        if (method == null) {
            return false;
        }
        method.reset();
        return noteChange(m, true);
    }

    public boolean cut(int m, int place) {
        Method method = methodAt(m);
        return method != null && noteChange(m, method.addCut(place));
    }

    public boolean claim(int m, int place, int a, int b, int c) {
        Cut cut = cutAt(m, place);
        if (cut == null || !areTwoSides(a, b) || !isBetween(c, -MOST_NUMBER, MOST_NUMBER)) {
            return false;
        }
        return noteChange(m, cut.addClaim(a, b, c));
    }

    public boolean base(int m, int place, int what, int base) {
        Cut cut = cutAt(m, place);
        if (cut == null || !isPotential(what) || !isBetween(base, -MOST_BASE, MOST_BASE)) {
            return false;
        }
        cut.potentials[what].base = base;
        return noteChange(m, true);
    }

    public boolean term(int m, int place, int what, int k, int side) {
        Cut cut = cutAt(m, place);
        if (cut == null || !isPotential(what) || !isBetween(k, 1, MOST_FACTOR)) {
            return false;
        }
        if (!isBetween(side, 0, SIDES * SIDES - 1) || !areTwoSides(side / SIDES, side % SIDES)) {
            return false;
        }
        return noteChange(m, cut.potentials[what].addTerm(k, side / SIDES, side % SIDES));
    }

    public int check(int m) {
        Method method = methodAt(m);
        if (method == null) {
            return NONE;
        }
        int answer = checker.answerFor(method);
        method.isAccepted = answer == ALL_WELL;
        return answer;
    }

    public boolean accepted(int m) {
        Method method = methodAt(m);
        return method != null && method.isAccepted;
    }

    public long bound(int m, int what, int x, int y, int z) {
        Method method = methodAt(m);
        if (method == null || !isPotential(what) || !method.isAccepted || !areValues(x, y, z)) {
            return NONE;
        }
        // Local 3 and side 4 stay 0 in this row.
        arguments[0] = x;
        arguments[1] = y;
        arguments[2] = z;
        Cut first = method.cuts[0];
        return first.holdsFor(arguments) ? first.potentials[what].valueFor(arguments) : NONE;
    }

    public int depth(int m) {
        if (methodAt(m) == null) {
            return NONE;
        }
        // Calls that count go to lower methods, so these are measured before it.
        for (int lower = 0; lower <= m; lower++) {
            measureDepth(methods[lower]);
        }
        return methods[m].deepest;
    }

    public boolean feed(int v) {
        return isValue(v) && machine.addInput(v);
    }

    public int run(int m, int x, int y, int z) {
        Method method = methodAt(m);
        if (method == null || method.length == 0 || !areValues(x, y, z)) {
            return NONE;
        }
        return machine.runToEnd(m, x, y, z);
    }

    public int ran(int what) {
        switch (what) {
            case 0:
                return machine.steps;
            case 1:
                return machine.words;
            case 2:
                return machine.mostRunning;
            case 3:
                return machine.returned;
            default:
                return NONE;
        }
    }

    private Method methodAt(int m) {
        return m >= 0 && m < METHODS ? methods[m] : null;
    }

    private Cut cutAt(int m, int place) {
        Method method = methodAt(m);
        return method == null ? null : method.findCut(place);
    }

    /** Takes the acceptance of a method and of those above it away if a change of it was made. */
    private boolean noteChange(int m, boolean isMade) {
        if (isMade) {
            for (int above = m; above < METHODS; above++) {
                methods[above].isAccepted = false;
            }
        }
        return isMade;
    }

    private void measureDepth(Method method) {
        int below = 0;
        for (int place = 0; place < method.length; place++) {
            int n = method.numbers[place];
            if (method.kinds[place] == CALL && n >= 0 && n < method.number) {
                below = Math.max(below, methods[n].deepest);
            }
        }
        method.deepest = method.length == 0 ? 0 : below + 1;
    }

    private static boolean isBetween(int value, int least, int most) {
        return value >= least && value <= most;
    }

    private static boolean isValue(int value) {
        return isBetween(value, -MOST_VALUE, MOST_VALUE);
    }

    private static boolean areValues(int x, int y, int z) {
        return isValue(x) && isValue(y) && isValue(z);
    }

    private static boolean isPotential(int what) {
        return isBetween(what, 0, POTENTIALS - 1);
    }

    private static boolean areTwoSides(int a, int b) {
        return isBetween(a, 0, SIDES - 1) && isBetween(b, 0, SIDES - 1) && a != b;
    }

    /** Whether an instruction cramps a stack of this size or means a local or method that it may not. */
    private static boolean isCramped(Method[] methods, Method method, int place, int size) {
        int kind = method.kinds[place];
        int n = method.numbers[place];
        int left = size - TAKES[kind];
        if (left < 0 || left + PUTS[kind] > MOST_STACKED) {
            return true;
        }
        if (kind == LOAD || kind == STORE) {
            return !isBetween(n, 0, LOCALS - 1);
        }
        return kind == CALL && (!isBetween(n, 0, method.number - 1) || methods[n].length == 0);
    }

    /** The instructions of one method and its certificate. */
    private static final class Method {
        final int number;
        final int[] kinds = new int[MOST_INSTRUCTIONS];
        final int[] numbers = new int[MOST_INSTRUCTIONS];
        int length;
        // By ascending places; those from cutCount on are spare.
        final Cut[] cuts = new Cut[MOST_CUTS];
        int cutCount;
        boolean isAccepted;
        int deepest;

        Method(int number) {
            this.number = number;
            for (int i = 0; i < MOST_CUTS; i++) {
                cuts[i] = new Cut();
            }
            cutCount = 1;
        }

        void reset() {
            length = 0;
            cutCount = 1;
            cuts[0].reset(0);
        }

        boolean append(int kind, int n) {
            if (length >= MOST_INSTRUCTIONS) {
                return false;
            }
            kinds[length] = kind;
            numbers[length] = n;
            length++;
            return true;
        }

        boolean hasPlace(int place) {
            return place >= 0 && place < length;
        }

        Cut findCut(int place) {
            for (int i = 0; i < cutCount; i++) {
                if (cuts[i].place == place) {
                    return cuts[i];
                }
            }
            return null;
        }

        boolean addCut(int place) {
            if (!isBetween(place, 0, MOST_INSTRUCTIONS - 1) || cutCount >= MOST_CUTS || findCut(place) != null) {
                return false;
            }
            Cut fresh = cuts[cutCount];
            fresh.reset(place);
            int at = cutCount;
            while (at > 0 && cuts[at - 1].place > place) {
                cuts[at] = cuts[at - 1];
                at--;
            }
            cuts[at] = fresh;
            cutCount++;
            return true;
        }
    }

    /** A place at which paths end and begin, with its claims and potentials. */
    private static final class Cut {
        int place;
        int claimCount;
        // Claim i is: the value of claimA[i] less that of claimB[i] is at most claimC[i].
        final int[] claimA = new int[MOST_CLAIMS];
        final int[] claimB = new int[MOST_CLAIMS];
        final int[] claimC = new int[MOST_CLAIMS];
        final Potential[] potentials = new Potential[POTENTIALS];

        Cut() {
            for (int what = 0; what < POTENTIALS; what++) {
                potentials[what] = new Potential();
            }
        }

        void reset(int newPlace) {
            place = newPlace;
            claimCount = 0;
            for (int what = 0; what < POTENTIALS; what++) {
                potentials[what].reset();
            }
        }

        boolean addClaim(int a, int b, int c) {
            if (claimCount >= MOST_CLAIMS) {
                return false;
            }
            claimA[claimCount] = a;
            claimB[claimCount] = b;
            claimC[claimCount] = c;
            claimCount++;
            return true;
        }

        /** Whether all claims hold when the sides have these values. */
        boolean holdsFor(int[] values) {
            for (int i = 0; i < claimCount; i++) {
                if (values[claimA[i]] - values[claimB[i]] > claimC[i]) {
                    return false;
                }
            }
            return true;
        }
    }

    /** A base and terms, each a factor times the difference of two sides. */
    private static final class Potential {
        int base;
        int termCount;
        final int[] factors = new int[MOST_TERMS];
        final int[] termA = new int[MOST_TERMS];
        final int[] termB = new int[MOST_TERMS];

        void reset() {
            base = 0;
            termCount = 0;
        }

        boolean addTerm(int k, int a, int b) {
            if (termCount >= MOST_TERMS) {
                return false;
            }
            factors[termCount] = k;
            termA[termCount] = a;
            termB[termCount] = b;
            termCount++;
            return true;
        }

        /** The value when the sides have these values. */
        long valueFor(int[] values) {
            long sum = base;
            for (int i = 0; i < termCount; i++) {
                sum += (long) factors[i] * (values[termA[i]] - values[termB[i]]);
            }
            return sum;
        }

        boolean speaksOfNothing(Symbols symbols) {
            for (int i = 0; i < termCount; i++) {
                if (symbols.sides[termA[i]] == NOTHING || symbols.sides[termB[i]] == NOTHING) {
                    return true;
                }
            }
            return false;
        }
    }

    /** A method that is running: its locals, its stack and where it goes on. */
    private static final class Frame {
        final int[] locals = new int[LOCALS];
        final int[] stack = new int[MOST_STACKED];
        int size;
        int method;
        int place;

        void enter(int m, int x, int y, int z) {
            method = m;
            place = 0;
            size = 0;
            locals[0] = x;
            locals[1] = y;
            locals[2] = z;
            locals[3] = 0;
        }

        void push(int value) {
            if (size < MOST_STACKED) {
                stack[size] = value;
                size++;
            }
        }

        int pop() {
            if (size <= 0) {
                return 0;
            }
            size--;
            return stack[size];
        }
    }

    /** Runs methods; its numbers are those of the latest run. */
    private static final class Machine {
        private final Method[] methods;
        // A method calls lower ones alone, so that no more than all of them run at once.
        private final Frame[] frames = new Frame[METHODS];
        private int top;
        private final int[] inputs = new int[MOST_INPUTS];
        private int inputCount;
        private int inputsRead;
        int steps;
        int words;
        int mostRunning;
        int returned;

        Machine(Method[] methods) {
            this.methods = methods;
            for (int i = 0; i < METHODS; i++) {
                frames[i] = new Frame();
            }
        }

        boolean addInput(int value) {
            if (inputCount >= MOST_INPUTS) {
                return false;
            }
            inputs[inputCount] = value;
            inputCount++;
            return true;
        }

        int runToEnd(int m, int x, int y, int z) {
            steps = 0;
            words = 0;
            mostRunning = 1;
            returned = 0;
            inputsRead = 0;
            top = 0;
            frames[0].enter(m, x, y, z);
            int end = GOES_ON;
            while (end == GOES_ON && steps < MOST_STEPS) {
                steps++;
                end = step();
            }
            inputCount = 0;
            return end == GOES_ON ? ENDS_LONG : end;
        }

        private int step() {
            Frame frame = frames[top];
            Method method = methods[frame.method];
            int place = frame.place;
            if (isCramped(methods, method, place, frame.size)) {
                return ENDS_CRAMPED;
            }
            frame.place = place + 1;
            int end = perform(frame, method.kinds[place], method.numbers[place]);
            if (end != GOES_ON) {
                return end;
            }
            Frame next = frames[top];
            return methods[next.method].hasPlace(next.place) ? GOES_ON : ENDS_CRAMPED;
        }

        private int perform(Frame frame, int kind, int n) {
            switch (kind) {
                case PUSH:
                    frame.push(n);
                    return GOES_ON;
                case LOAD:
                    frame.push(frame.locals[n]);
                    return GOES_ON;
                case STORE:
                    frame.locals[n] = frame.pop();
                    return GOES_ON;
                case ADD:
                    return pushSum(frame, frame.pop(), frame.pop());
                case SUB:
                    return pushSum(frame, -frame.pop(), frame.pop());
                case UP:
                    return growLocal(frame, 0, n);
                case UP_1:
                    return growLocal(frame, 1, n);
                case GOTO:
                    frame.place = n;
                    return GOES_ON;
                case IFLESS:
                case IFNOT:
                    goIf(frame, kind == IFLESS, n);
                    return GOES_ON;
                case NEW:
                    return takeWords(frame.pop());
                case CALL:
                    enterCalled(frame, n);
                    return GOES_ON;
                case RETURN:
                    return leave(frame.pop());
                case READ:
                    frame.push(nextInput());
                    return GOES_ON;
                case DROP:
                default:
                    frame.pop();
                    return GOES_ON;
            }
        }

        private static int pushSum(Frame frame, int one, int other) {
            if (!isValue(one + other)) {
                return ENDS_TRAPPED;
            }
            frame.push(one + other);
            return GOES_ON;
        }

        private static int growLocal(Frame frame, int local, int n) {
            if (!isValue(frame.locals[local] + n)) {
                return ENDS_TRAPPED;
            }
            frame.locals[local] += n;
            return GOES_ON;
        }

        private static void goIf(Frame frame, boolean isLess, int n) {
            int y = frame.pop();
            int x = frame.pop();
            if (x < y == isLess) {
                frame.place = n;
            }
        }

        private int takeWords(int width) {
            if (width < 0 || words + width + WORDS_BESIDE > MOST_WORDS) {
                return ENDS_TRAPPED;
            }
            words += width + WORDS_BESIDE;
            return GOES_ON;
        }

        private void enterCalled(Frame frame, int n) {
            int z = frame.pop();
            int y = frame.pop();
            int x = frame.pop();
            if (top < METHODS - 1) {
                top++;
                frames[top].enter(n, x, y, z);
                mostRunning = Math.max(mostRunning, top + 1);
            }
        }

        private int leave(int value) {
            if (top == 0) {
                returned = value;
                return ENDS_RETURNED;
            }
            top--;
            frames[top].push(value);
            return GOES_ON;
        }

        private int nextInput() {
            if (inputsRead >= inputCount) {
                return 0;
            }
            inputsRead++;
            return inputs[inputsRead - 1];
        }
    }

    /** What five sides stand for: each for a side at the cut + a number, or for NOTHING. */
    private static final class Symbols {
        final int[] sides = new int[SIDES];
        final long[] numbers = new long[SIDES];

        void set(int at, int side, long number) {
            sides[at] = side;
            numbers[at] = number;
        }

        void standForThemselves() {
            for (int side = 0; side < SIDES; side++) {
                set(side, side, 0);
            }
        }

        void copyFrom(Symbols other) {
            System.arraycopy(other.sides, 0, sides, 0, SIDES);
            System.arraycopy(other.numbers, 0, numbers, 0, SIDES);
        }
    }

    /** The bounds of all differences of two sides that follow from claims without contradiction. */
    private static final class Known {
        // At SIDES * a + b: the bound of a - b.
        final long[] bounds = new long[SIDES * SIDES];

        void forgetAll() {
            for (int a = 0; a < SIDES; a++) {
                for (int b = 0; b < SIDES; b++) {
                    bounds[SIDES * a + b] = a == b ? 0 : NO_BOUND;
                }
            }
        }

        void copyFrom(Known other) {
            System.arraycopy(other.bounds, 0, bounds, 0, SIDES * SIDES);
        }

        long boundOf(int a, int b) {
            return bounds[SIDES * a + b];
        }

        /** Adds that a - b is at most c; false when that contradicts what is known. */
        boolean learn(int a, int b, long c) {
            if (boundOf(b, a) != NO_BOUND && boundOf(b, a) + c < 0) {
                return false;
            }
            // No chain uses the new claim twice, and none to a or from b gets shorter by it.
            for (int from = 0; from < SIDES; from++) {
                for (int to = 0; to < SIDES; to++) {
                    if (boundOf(from, a) != NO_BOUND && boundOf(b, to) != NO_BOUND) {
                        long sum = boundOf(from, a) + c + boundOf(b, to);
                        if (sum < boundOf(from, to)) {
                            bounds[SIDES * from + to] = sum;
                        }
                    }
                }
            }
            return true;
        }

        /** Learns the claims of a cut, of whose sides they speak; false when they are contradicted. */
        boolean learnClaims(Cut cut) {
            for (int i = 0; i < cut.claimCount; i++) {
                if (!learn(cut.claimA[i], cut.claimB[i], cut.claimC[i])) {
                    return false;
                }
            }
            return true;
        }

        /** Whether the claims of a cut follow, its sides being what the symbols say. */
        boolean showsClaims(Cut cut, Symbols symbols) {
            for (int i = 0; i < cut.claimCount; i++) {
                int a = cut.claimA[i];
                int b = cut.claimB[i];
                if (symbols.sides[a] == NOTHING || symbols.sides[b] == NOTHING) {
                    return false;
                }
                long c = cut.claimC[i] - symbols.numbers[a] + symbols.numbers[b];
                if (boundOf(symbols.sides[a], symbols.sides[b]) > c) {
                    return false;
                }
            }
            return true;
        }

        /** Whether a side + a number is known to be 0 or more. */
        boolean showsNotNegative(int side, long number) {
            return number - boundOf(ZERO, side) >= 0;
        }

        /** Whether a potential may be less than 0, each of its terms being taken by itself. */
        boolean allowsNegative(Potential potential) {
            long sum = potential.base;
            for (int i = 0; i < potential.termCount; i++) {
                long opposite = boundOf(potential.termB[i], potential.termA[i]);
                if (opposite == NO_BOUND) {
                    return true;
                }
                sum -= potential.factors[i] * opposite;
            }
            return sum < 0;
        }
    }

    /** What is left of a potential: terms over the sides at the cut, and a number. */
    private static final class Balance {
        // At SIDES * a + b, with a less than b: how often a - b is left.
        final long[] factors = new long[SIDES * SIDES];
        long number;

        void reset() {
            for (int i = 0; i < SIDES * SIDES; i++) {
                factors[i] = 0;
            }
            number = 0;
        }

        void copyFrom(Balance other) {
            System.arraycopy(other.factors, 0, factors, 0, SIDES * SIDES);
            number = other.number;
        }

        void addDifference(long k, int a, int b) {
            if (a < b) {
                factors[SIDES * a + b] += k;
            } else if (a > b) {
                factors[SIDES * b + a] -= k;
            }
        }

        /** Adds a potential so many times, its sides being what the symbols say. */
        void addPotential(int times, Potential potential, Symbols symbols) {
            number += (long) times * potential.base;
            for (int i = 0; i < potential.termCount; i++) {
                int a = potential.termA[i];
                int b = potential.termB[i];
                long k = (long) times * potential.factors[i];
                number += k * (symbols.numbers[a] - symbols.numbers[b]);
                addDifference(k, symbols.sides[a], symbols.sides[b]);
            }
        }

        void payWords(int side, long width) {
            number -= width + WORDS_BESIDE;
            addDifference(-1, side, ZERO);
        }

        boolean isShownNotNegative(Known known) {
            long sum = number;
            for (int a = 0; a < SIDES; a++) {
                for (int b = a + 1; b < SIDES; b++) {
                    long k = factors[SIDES * a + b];
                    // The least of a - b is minus the bound of b - a.
                    long needed = k > 0 ? known.boundOf(b, a) : known.boundOf(a, b);
                    if (k != 0 && needed == NO_BOUND) {
                        return false;
                    }
                    sum += k > 0 ? -k * needed : k * needed;
                }
            }
            return sum >= 0;
        }
    }

    /** A path from a cut as far as it has been followed. */
    private static final class Path {
        final Symbols locals = new Symbols();
        final int[] stackSides = new int[MOST_STACKED];
        final long[] stackNumbers = new long[MOST_STACKED];
        int size;
        int place;
        int made;
        final Known known = new Known();
        final Balance[] balances = new Balance[POTENTIALS];

        Path() {
            for (int what = 0; what < POTENTIALS; what++) {
                balances[what] = new Balance();
            }
        }

        /** Makes this the path at its beginning; false when the claims there are contradicted. */
        boolean beginAt(Cut cut) {
            place = cut.place;
            made = 0;
            size = 0;
            locals.standForThemselves();
            for (int what = 0; what < POTENTIALS; what++) {
                balances[what].reset();
                balances[what].addPotential(1, cut.potentials[what], locals);
            }
            known.forgetAll();
            return known.learnClaims(cut);
        }

        void copyFrom(Path other) {
            locals.copyFrom(other.locals);
            System.arraycopy(other.stackSides, 0, stackSides, 0, MOST_STACKED);
            System.arraycopy(other.stackNumbers, 0, stackNumbers, 0, MOST_STACKED);
            size = other.size;
            place = other.place;
            made = other.made;
            known.copyFrom(other.known);
            for (int what = 0; what < POTENTIALS; what++) {
                balances[what].copyFrom(other.balances[what]);
            }
        }

        void countInstruction() {
            made++;
            place++;
            balances[STEPS].number--;
        }

        void push(int side, long number) {
            if (size < MOST_STACKED) {
                stackSides[size] = side;
                stackNumbers[size] = number;
                size++;
            }
        }

        /** Takes values off; they can still be read, the lowest of them at the index size. */
        void drop(int count) {
            size = Math.max(size - count, 0);
        }

        /** Performs an instruction that neither parts nor ends the path and can't go wrong on it. */
        void performPlain(int kind, int n) {
            switch (kind) {
                case PUSH:
                    push(ZERO, n);
                    break;
                case LOAD:
                    push(locals.sides[n], locals.numbers[n]);
                    break;
                case STORE:
                    drop(1);
                    locals.set(n, stackSides[size], stackNumbers[size]);
                    break;
                case ADD:
                    drop(2);
                    pushSum(stackSides[size], stackSides[size + 1]);
                    break;
                case SUB:
                    drop(2);
                    pushDifference(stackSides[size], stackSides[size + 1]);
                    break;
                // The number of a local that is NOTHING is never looked at.
                case UP:
                    locals.numbers[0] += n;
                    break;
                case UP_1:
                    locals.numbers[1] += n;
                    break;
                case GOTO:
                    place = n;
                    break;
                case READ:
                    push(NOTHING, 0);
                    break;
                case DROP:
                default:
                    drop(1);
                    break;
            }
        }

        /** Pushes the sum of the two symbols that were dropped and have these sides. */
        private void pushSum(int sideX, int sideY) {
            long sum = stackNumbers[size] + stackNumbers[size + 1];
            if (sideY == ZERO) {
                push(sideX, sum);
            } else {
                push(sideX == ZERO ? sideY : NOTHING, sum);
            }
        }

        /** Pushes the difference of the two symbols that were dropped and have these sides. */
        private void pushDifference(int sideX, int sideY) {
            long difference = stackNumbers[size] - stackNumbers[size + 1];
            if (sideY == ZERO) {
                push(sideX, difference);
            } else {
                push(sideX == sideY && sideX != NOTHING ? ZERO : NOTHING, difference);
            }
        }

        /** Learns whether x < y held of the two symbols that were dropped; false when contradicted. */
        boolean learnLess(boolean isLess) {
            int sideX = stackSides[size];
            int sideY = stackSides[size + 1];
            if (sideX == NOTHING || sideY == NOTHING) {
                return true;
            }
            long apart = stackNumbers[size + 1] - stackNumbers[size];
            return isLess ? known.learn(sideX, sideY, apart - 1) : known.learn(sideY, sideX, -apart);
        }
    }

    /** Checks methods with their certificates. */
    private static final class Checker {
        private final Method[] methods;
        private Method method;
        // At each level the path that is followed when that many partings above it stand open.
        private final Path[] paths = new Path[MOST_PATHS];
        private final Symbols called = new Symbols();
        private int ended;

        Checker(Method[] methods) {
            this.methods = methods;
            method = methods[0];
            for (int i = 0; i < MOST_PATHS; i++) {
                paths[i] = new Path();
            }
        }

        int answerFor(Method checked) {
            if (checked.length == 0) {
                return CRAMPED;
            }
            method = checked;
            for (int i = 0; i < checked.cutCount; i++) {
                int reason = reasonAtCut(checked.cuts[i]);
                if (reason != ALL_WELL) {
                    return ANSWER_PER_PLACE * checked.cuts[i].place + reason;
                }
            }
            return ALL_WELL;
        }

        private int reasonAtCut(Cut cut) {
            Path path = paths[0];
            if (!path.beginAt(cut)) {
                return ALL_WELL;
            }
            if (path.known.allowsNegative(cut.potentials[STEPS]) || path.known.allowsNegative(cut.potentials[WORDS])) {
                return NEGATIVE;
            }
            ended = 0;
            return reasonFrom(0);
        }

        /** Follows the path of a level and all that part from it, to the first thing that is wrong. */
        private int reasonFrom(int level) {
            if (level >= MOST_PATHS) {
                return UNCUT;
            }
            Path path = paths[level];
            for (int turn = 0; turn <= MOST_MADE; turn++) {
                int place = path.place;
                if (!method.hasPlace(place)) {
                    return CRAMPED;
                }
                Cut end = path.made == 0 ? null : method.findCut(place);
                if (end != null) {
                    return reasonAtEnd(path, end);
                }
                if (path.made >= MOST_MADE) {
                    return UNCUT;
                }
                if (isCramped(methods, method, place, path.size)) {
                    return CRAMPED;
                }
                int kind = method.kinds[place];
                int n = method.numbers[place];
                path.countInstruction();
                if (kind == RETURN) {
                    return reasonAtEnd(path, null);
                }
                int reason = ALL_WELL;
                if (kind == IFLESS || kind == IFNOT) {
                    reason = reasonBehind(level, kind == IFNOT);
                    path.place = n;
                    if (reason == ALL_WELL && !path.learnLess(kind == IFLESS)) {
                        return ALL_WELL;
                    }
                } else if (kind == NEW) {
                    reason = reasonOfNew(path);
                } else if (kind == CALL) {
                    reason = reasonOfCall(path, methods[n]);
                } else {
                    path.performPlain(kind, n);
                }
                if (reason != ALL_WELL) {
                    return reason;
                }
            }
            return UNCUT;
        }

        /** Takes the two compared symbols off, and follows the path that goes on behind the parting. */
        private int reasonBehind(int level, boolean isLess) {
            paths[level].drop(2);
            if (level + 1 >= MOST_PATHS) {
                return UNCUT;
            }
            Path behind = paths[level + 1];
            behind.copyFrom(paths[level]);
            return behind.learnLess(isLess) ? reasonFrom(level + 1) : ALL_WELL;
        }

        private int reasonOfNew(Path path) {
            path.drop(1);
            int side = path.stackSides[path.size];
            long number = path.stackNumbers[path.size];
            if (side == NOTHING || !path.known.showsNotNegative(side, number)) {
                return WIDTH;
            }
            path.balances[WORDS].payWords(side, number);
            return ALL_WELL;
        }

        private int reasonOfCall(Path path, Method callee) {
            path.drop(ARGUMENTS);
            called.standForThemselves();
            called.set(LOCALS - 1, ZERO, 0);
            for (int i = 0; i < ARGUMENTS; i++) {
                called.set(i, path.stackSides[path.size + i], path.stackNumbers[path.size + i]);
            }
            Cut first = callee.cuts[0];
            if (!callee.isAccepted || !path.known.showsClaims(first, called)) {
                return CALLED;
            }
            for (int what = 0; what < POTENTIALS; what++) {
                if (first.potentials[what].speaksOfNothing(called)) {
                    return CALLED;
                }
                path.balances[what].addPotential(-1, first.potentials[what], called);
            }
            path.push(NOTHING, 0);
            return ALL_WELL;
        }

        /** What is wrong at the end of a path, which is a cut, or a RETURN when that is null. */
        private int reasonAtEnd(Path path, Cut end) {
            if (ended >= MOST_ENDED) {
                return MANY;
            }
            ended++;
            if (end != null && path.size > 0) {
                return STACK;
            }
            if (end != null && !path.known.showsClaims(end, path.locals)) {
                return CLAIM;
            }
            for (int what = 0; what < POTENTIALS; what++) {
                if (end != null && end.potentials[what].speaksOfNothing(path.locals)) {
                    return COST;
                }
                if (end != null) {
                    path.balances[what].addPotential(-1, end.potentials[what], path.locals);
                }
                if (!path.balances[what].isShownNotNegative(path.known)) {
                    return COST;
                }
            }
            return ALL_WELL;
        }
    }
}
