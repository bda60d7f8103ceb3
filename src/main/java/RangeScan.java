/**
 * Finds for each instruction of a small program, without running it, an interval for each variable
 * that holds all values it can have there, and raises alarms at divisions and array accesses that
 * the intervals do not show to be safe.
 *
 * <p>No call throws. Every number of an instruction that is later used as an index is tested by
 * {@link #add}, and every place that is gone on at by {@link #scan}, before they are used.
 */
public final class RangeScan {
    private static final int MOST_INSTRUCTIONS = 24;
    private static final int VARIABLES = 4;
    private static final int LAST_CELL = 7;

    private static final int HALT = 0;
    private static final int SET = 1;
    private static final int COPY = 2;
    private static final int PLUS = 3;
    private static final int MINUS = 4;
    private static final int TIMES = 5;
    private static final int DIVIDE = 6;
    private static final int LOAD = 7;
    private static final int STORE = 8;
    private static final int IF_LESS = 9;
    private static final int GO = 10;
    private static final int INPUT = 11;

    private static final int FIELDS = 4;
    private static final int OP = 0;
    private static final int A = 1;
    private static final int B = 2;
    private static final int C = 3;

    private static final long LEAST_INT = -2147483648L;
    private static final long GREATEST_INT = 2147483647L;

    private static final int WRONG_NUMBER = -1;
    private static final int FULL = -2;
    private static final int NO_SUCH_FIELD = -9;
    private static final int NOT_WHOLE = -1;
    private static final int NOT_TOLD = -1;
    private static final long NO_BOUND = 4294967296L;

    private static final int NO_ALARM = 0;
    private static final int DIVISION_ALARM = 1;
    private static final int ARRAY_ALARM = 2;

    /**
     * No scan comes near it: after a round in which no backward flow changed anything comes one
     * that changes nothing, and backward flows change each of the 24 states at most nine times (it
     * is no longer nowhere, or one of its eight ends goes as far as it can).
     */
    private static final int MOST_ROUNDS = 10000;

    private final int[] codes = new int[MOST_INSTRUCTIONS * FIELDS];
    private int count = 0;
    private boolean scanned = false;
    private int roundsTaken = 0;

    /** What the rounds have found; the last step reads it whole, so it writes into other states. */
    private final States found = new States();
    private final States settled = new States();
    private final Flow flow = new Flow();
    private final Results results = new Results();

    /** Makes an empty program, not scanned. */
    public RangeScan() {
    }

    /** Appends an instruction: its number; -1 if a number is wrong, else -2 if there are 24. */
    public int add(int op, int a, int b, int c) {
        if (op < HALT || op > INPUT || !areVariablesRight(op, a, b, c) || !isPlaceRight(op, c)) {
            return WRONG_NUMBER;
        }
        if (count >= MOST_INSTRUCTIONS) {
            return FULL;
        }
        int start = count * FIELDS;
        codes[start + OP] = op;
        codes[start + A] = a;
        codes[start + B] = b;
        codes[start + C] = c;
        count++;
        forgetScan();
        return count - 1;
    }

    /** Makes the program empty, and not scanned. */
    public void clear() {
        count = 0;
        forgetScan();
    }

    /** How many instructions there are. */
    public int size() {
        return count;
    }

    /** Of instruction p the op (field 0), a (1), b (2) or c (3); -9 if there is none such. */
    public int code(int p, int field) {
        if (!isInstruction(p) || field < OP || field > C) {
            return NO_SUCH_FIELD;
        }
        return codes[p * FIELDS + field];
    }

    /** Scans: how many alarms there are; -1 if the program is not whole. */
    public int scan() {
        forgetScan();
        if (!isWhole()) {
            return NOT_WHOLE;
        }
        found.begin();
        boolean changing = true;
        for (int round = 1; changing && round <= MOST_ROUNDS; round++) {
            changing = runRound();
            roundsTaken = round;
        }
        settle();
        scanned = true;
        return countAlarms();
    }

    /** How many rounds the latest scan took; 0 if it is not scanned. */
    public int rounds() {
        return roundsTaken;
    }

    /** 1 if instruction p has a state, 0 if it is nowhere; -1 if that is not known. */
    public int reached(int p) {
        if (!scanned || !isInstruction(p)) {
            return NOT_TOLD;
        }
        return settled.isSomewhere(p) ? 1 : 0;
    }

    /** The low of a variable before instruction p; 4294967296 if there is none. */
    public long low(int p, int variable) {
        if (reached(p) != 1 || !isVariable(variable)) {
            return NO_BOUND;
        }
        return settled.lowOf(p, variable);
    }

    /** The high of a variable before instruction p; 4294967296 if there is none. */
    public long high(int p, int variable) {
        if (reached(p) != 1 || !isVariable(variable)) {
            return NO_BOUND;
        }
        return settled.highOf(p, variable);
    }

    /** 1 if instruction p may divide by 0, 2 if it may leave the array, else 0. */
    public int alarm(int p) {
        if (reached(p) != 1) {
            return NO_ALARM;
        }
        switch (codes[p * FIELDS + OP]) {
            case DIVIDE:
                return mayDivideByZero(p) ? DIVISION_ALARM : NO_ALARM;
            case LOAD:
            case STORE:
                return mayLeaveArray(p) ? ARRAY_ALARM : NO_ALARM;
            default:
                return NO_ALARM;
        }
    }

    private static boolean isVariable(int number) {
        return number >= 0 && number < VARIABLES;
    }

    private boolean isInstruction(int p) {
        return p >= 0 && p < count;
    }

    private static boolean areVariablesRight(int op, int a, int b, int c) {
        boolean usesA = op >= SET && op <= IF_LESS || op == INPUT;
        boolean usesB = op >= COPY && op <= IF_LESS;
        boolean usesC = op >= PLUS && op <= DIVIDE;
        return (!usesA || isVariable(a)) && (!usesB || isVariable(b)) && (!usesC || isVariable(c));
    }

    private static boolean isPlaceRight(int op, int c) {
        return !goesOnAtC(op) || c >= 0 && c < MOST_INSTRUCTIONS;
    }

    private static boolean goesOnAtC(int op) {
        return op == IF_LESS || op == GO;
    }

    private void forgetScan() {
        scanned = false;
        roundsTaken = 0;
    }

    private boolean isWhole() {
        if (count == 0) {
            return false;
        }
        int lastOp = codes[(count - 1) * FIELDS + OP];
        return (lastOp == HALT || lastOp == GO) && areAllPlacesInside();
    }

    private boolean areAllPlacesInside() {
        for (int p = 0; p < count; p++) {
            int start = p * FIELDS;
            if (goesOnAtC(codes[start + OP]) && !isInstruction(codes[start + C])) {
                return false;
            }
        }
        return true;
    }

    /** Answers whether the round changed anything. */
    private boolean runRound() {
        boolean changed = false;
        for (int p = 0; p < count; p++) {
            if (found.isSomewhere(p) && sendFlows(p, found, true)) {
                changed = true;
            }
        }
        return changed;
    }

    private void settle() {
        settled.begin();
        for (int p = 0; p < count; p++) {
            if (found.isSomewhere(p)) {
                sendFlows(p, settled, false);
            }
        }
    }

    /**
     * Makes the flows of p from what is found and lets them arrive: whether that changed anything.
     * The flow to p + 1 may arrive before the one to c is made, as it leaves the state of p alone.
     */
    private boolean sendFlows(int p, States target, boolean widening) {
        makeFlowToNext(p);
        boolean nextChanged = target.take(p + 1, flow, false);
        makeFlowToPlace(p);
        int place = codes[p * FIELDS + C];
        boolean placeChanged = target.take(place, flow, widening && place <= p);
        return nextChanged || placeChanged;
    }

    private void makeFlowToNext(int p) {
        int start = p * FIELDS;
        int op = codes[start + OP];
        int a = codes[start + A];
        int b = codes[start + B];
        found.copyTo(flow, p);
        switch (op) {
            case SET:
                flow.put(a, b, b);
                break;
            case COPY:
                flow.put(a, flow.lowOf(b), flow.highOf(b));
                break;
            case PLUS:
            case MINUS:
            case TIMES:
            case DIVIDE:
                calculate(op, b, codes[start + C]);
                putResults(a);
                break;
            case LOAD:
                stopOutsideArray(b);
                flow.put(a, LEAST_INT, GREATEST_INT);
                break;
            case STORE:
                stopOutsideArray(b);
                break;
            case IF_LESS:
                keepNotLess(a, b);
                break;
            case INPUT:
                flow.put(a, LEAST_INT, GREATEST_INT);
                break;
            default:
                flow.stop();
                break;
        }
    }

    private void makeFlowToPlace(int p) {
        int start = p * FIELDS;
        found.copyTo(flow, p);
        switch (codes[start + OP]) {
            case IF_LESS:
                keepLess(codes[start + A], codes[start + B]);
                break;
            case GO:
                break;
            default:
                flow.stop();
                break;
        }
    }

    private void calculate(int op, int b, int c) {
        long lowC = flow.lowOf(c);
        long highC = flow.highOf(c);
        results.forget();
        if (op == DIVIDE) {
            takeEnds(op, b, lowC, Math.min(highC, -1L));
            takeEnds(op, b, Math.max(lowC, 1L), highC);
        } else {
            takeEnds(op, b, lowC, highC);
        }
    }

    /** Takes the results of the four pairs of ends, and none if [lowC, highC] is no interval. */
    private void takeEnds(int op, int b, long lowC, long highC) {
        if (lowC > highC) {
            return;
        }
        long lowB = flow.lowOf(b);
        long highB = flow.highOf(b);
        results.take(exactResult(op, lowB, lowC));
        results.take(exactResult(op, lowB, highC));
        results.take(exactResult(op, highB, lowC));
        results.take(exactResult(op, highB, highC));
    }

    /** The ends are ints, so no result leaves the longs; no divisor that comes here is 0. */
    private static long exactResult(int op, long x, long y) {
        switch (op) {
            case PLUS:
                return x + y;
            case MINUS:
                return x - y;
            case TIMES:
                return x * y;
            default:
                return y == 0 ? 0 : x / y;
        }
    }

    private void putResults(int a) {
        if (results.isEmpty()) {
            flow.stop();
        } else if (results.wrapTogether()) {
            flow.put(a, results.wrappedLeast(), results.wrappedGreatest());
        } else {
            flow.put(a, LEAST_INT, GREATEST_INT);
        }
    }

    private void stopOutsideArray(int b) {
        if (flow.highOf(b) < 0 || flow.lowOf(b) > LAST_CELL) {
            flow.stop();
        }
    }

    /** Each end that changes is computed from one that does not, so from the ends before. */
    private void keepNotLess(int a, int b) {
        if (a != b) {
            flow.raiseLow(a, flow.lowOf(b));
            flow.lowerHigh(b, flow.highOf(a));
        }
    }

    /** As in keepNotLess, each end that changes is computed from one that does not. */
    private void keepLess(int a, int b) {
        if (a == b) {
            flow.stop();
        } else {
            flow.lowerHigh(a, flow.highOf(b) - 1);
            flow.raiseLow(b, flow.lowOf(a) + 1);
        }
    }

    private int countAlarms() {
        int alarms = 0;
        for (int p = 0; p < count; p++) {
            if (alarm(p) != NO_ALARM) {
                alarms++;
            }
        }
        return alarms;
    }

    private boolean mayDivideByZero(int p) {
        int divisor = codes[p * FIELDS + C];
        return settled.lowOf(p, divisor) <= 0 && settled.highOf(p, divisor) >= 0;
    }

    private boolean mayLeaveArray(int p) {
        int index = codes[p * FIELDS + B];
        return settled.lowOf(p, index) < 0 || settled.highOf(p, index) > LAST_CELL;
    }

    /** What flows from one instruction to one other: nothing, or an interval for each variable. */
    private static final class Flow {
        private boolean something = false;
        private final long[] lows = new long[VARIABLES];
        private final long[] highs = new long[VARIABLES];

        void start() {
            something = true;
        }

        void stop() {
            something = false;
        }

        boolean isSomething() {
            return something;
        }

        long lowOf(int variable) {
            return lows[variable];
        }

        long highOf(int variable) {
            return highs[variable];
        }

        void put(int variable, long newLow, long newHigh) {
            lows[variable] = newLow;
            highs[variable] = newHigh;
        }

        void raiseLow(int variable, long bound) {
            lows[variable] = Math.max(lows[variable], bound);
            stopIfCrossed(variable);
        }

        void lowerHigh(int variable, long bound) {
            highs[variable] = Math.min(highs[variable], bound);
            stopIfCrossed(variable);
        }

        private void stopIfCrossed(int variable) {
            if (lows[variable] > highs[variable]) {
                something = false;
            }
        }
    }

    /** A state for each instruction, the variables of one side by side. */
    private static final class States {
        private final boolean[] somewhere = new boolean[MOST_INSTRUCTIONS];
        private final long[] lows = new long[MOST_INSTRUCTIONS * VARIABLES];
        private final long[] highs = new long[MOST_INSTRUCTIONS * VARIABLES];

        /** Makes all nowhere, but instruction 0, where all variables are 0. */
        void begin() {
            for (int p = 0; p < MOST_INSTRUCTIONS; p++) {
                somewhere[p] = p == 0;
            }
            for (int variable = 0; variable < VARIABLES; variable++) {
                lows[variable] = 0;
                highs[variable] = 0;
            }
        }

        boolean isSomewhere(int p) {
            return somewhere[p];
        }

        long lowOf(int p, int variable) {
            return lows[p * VARIABLES + variable];
        }

        long highOf(int p, int variable) {
            return highs[p * VARIABLES + variable];
        }

        /** The flow becomes the state of p, which is not nowhere. */
        void copyTo(Flow flow, int p) {
            flow.start();
            for (int variable = 0; variable < VARIABLES; variable++) {
                flow.put(variable, lowOf(p, variable), highOf(p, variable));
            }
        }

        /** A flow arrives at q: whether that changed its state. */
        boolean take(int q, Flow flow, boolean widening) {
            if (!flow.isSomething() || q < 0 || q >= MOST_INSTRUCTIONS) {
                return false;
            }
            if (!somewhere[q]) {
                become(q, flow);
                return true;
            }
            boolean changed = false;
            for (int variable = 0; variable < VARIABLES; variable++) {
                if (stretch(q, variable, flow, widening)) {
                    changed = true;
                }
            }
            return changed;
        }

        private void become(int q, Flow flow) {
            somewhere[q] = true;
            for (int variable = 0; variable < VARIABLES; variable++) {
                lows[q * VARIABLES + variable] = flow.lowOf(variable);
                highs[q * VARIABLES + variable] = flow.highOf(variable);
            }
        }

        private boolean stretch(int q, int variable, Flow flow, boolean widening) {
            int slot = q * VARIABLES + variable;
            boolean changed = false;
            if (flow.lowOf(variable) < lows[slot]) {
                lows[slot] = widening ? LEAST_INT : flow.lowOf(variable);
                changed = true;
            }
            if (flow.highOf(variable) > highs[slot]) {
                highs[slot] = widening ? GREATEST_INT : flow.highOf(variable);
                changed = true;
            }
            return changed;
        }
    }

    /** The least and the greatest of the exact results that were taken. */
    private static final class Results {
        private boolean empty = true;
        private long least = 0;
        private long greatest = 0;

        void forget() {
            empty = true;
        }

        boolean isEmpty() {
            return empty;
        }

        void take(long result) {
            if (empty || result < least) {
                least = result;
            }
            if (empty || result > greatest) {
                greatest = result;
            }
            empty = false;
        }

        /** Whether both ends need the same multiple of 2^32 taken off to be ints. */
        boolean wrapTogether() {
            return least - wrappedLeast() == greatest - wrappedGreatest();
        }

        long wrappedLeast() {
            return (int) least;
        }

        long wrappedGreatest() {
            return (int) greatest;
        }
    }
}
