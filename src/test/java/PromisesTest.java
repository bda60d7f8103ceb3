/** For each promise: ordinary inputs, the edges that the document names, and wrong inputs. */
public final class PromisesTest {
    private static final int MIN = Integer.MIN_VALUE;
    private static final int MAX = Integer.MAX_VALUE;
    private static final long NONE = 4294967296L;
    private static final int END = 23;

    private static final Check check = new Check();

    public static void main(String[] args) {
        newObject();
        addNumbers();
        addLimits();
        addAndScan();
        clearing();
        sizes();
        codes();
        scanWhole();
        scanAgain();
        flowsOfOneInstruction();
        flowsOfCalculation();
        flowsOfDivision();
        flowsOfArray();
        flowsOfLess();
        scanLoops();
        scanJoins();
        lastStepIsOneStep();
        lastStepIsAtOnce();
        roundCounts();
        reaching();
        bounds();
        alarms();
        questionsChangeNothing();
        check.finish();
    }

    private static RangeScan program(int[]... rows) {
        RangeScan x = new RangeScan();
        for (int[] row : rows) {
            x.add(row[0], row[1], row[2], row[3]);
        }
        return x;
    }

    private static int[] row(int op, int a, int b, int c) {
        return new int[] {op, a, b, c};
    }

    private static void interval(String what, RangeScan x, int p, int variable, long low, long high) {
        check.due(what + ": low(" + p + ", " + variable + ")", x.low(p, variable), low);
        check.due(what + ": high(" + p + ", " + variable + ")", x.high(p, variable), high);
    }

    /** Five instructions, after which the variable has the interval; they spend variable 3. */
    private static void addInterval(RangeScan x, int variable, int low, int high) {
        x.add(11, variable, 0, 0);
        x.add(1, 3, high, 0);
        x.add(9, 3, variable, END);
        x.add(1, 3, low, 0);
        x.add(9, variable, 3, END);
    }

    private static void fillWithHalts(RangeScan x) {
        for (int p = x.size(); p < 24; p++) {
            x.add(0, 0, 0, 0);
        }
    }

    /** Instruction 10 is the given one, with these intervals of variables 0 and 1 before it. */
    private static RangeScan afterIntervals(int[] row, int low0, int high0, int low1, int high1) {
        RangeScan x = new RangeScan();
        addInterval(x, 0, low0, high0);
        addInterval(x, 1, low1, high1);
        x.add(row[0], row[1], row[2], row[3]);
        fillWithHalts(x);
        check.holds("scan() answered " + x.scan(), x.scan() >= 0);
        interval("before", x, 10, 0, low0, high0);
        interval("before", x, 10, 1, low1, high1);
        return x;
    }

    private static void newObject() {
        RangeScan x = new RangeScan();
        check.due("new: size()", x.size(), 0);
        check.due("new: rounds()", x.rounds(), 0);
        check.due("new: code(0, 0)", x.code(0, 0), -9);
        check.due("new: reached(0)", x.reached(0), -1);
        check.due("new: low(0, 0)", x.low(0, 0), NONE);
        check.due("new: high(0, 0)", x.high(0, 0), NONE);
        check.due("new: alarm(0)", x.alarm(0), 0);
        check.due("new: scan()", x.scan(), -1);
        x.add(0, 0, 0, 0);
        check.due("two objects: size()", new RangeScan().size(), 0);
    }

    private static boolean isVariableUsed(int op, int place) {
        boolean[] used = {
            op >= 1 && op <= 9 || op == 11, op >= 2 && op <= 9, op >= 3 && op <= 6
        };
        return used[place];
    }

    private static void addNumbers() {
        int[] wrongOps = {-1, 12, MIN, MAX};
        for (int op : wrongOps) {
            check.due("add(" + op + ", 0, 0, 0)", new RangeScan().add(op, 0, 0, 0), -1);
        }
        int[] numbers = {MIN, -1, 0, 3, 4, 23, 24, MAX};
        for (int op = 0; op <= 11; op++) {
            for (int place = 0; place < 3; place++) {
                for (int number : numbers) {
                    addOneNumber(op, place, number);
                }
            }
        }
    }

    private static void addOneNumber(int op, int place, int number) {
        int[] abc = {0, 0, 0};
        abc[place] = number;
        boolean right = !isVariableUsed(op, place) || number >= 0 && number <= 3;
        if (place == 2 && (op == 9 || op == 10)) {
            right = number >= 0 && number <= 23;
        }
        String call = "add(" + op + ", " + abc[0] + ", " + abc[1] + ", " + abc[2] + ")";
        RangeScan x = new RangeScan();
        check.due(call, x.add(op, abc[0], abc[1], abc[2]), right ? 0 : -1);
        check.due(call + ", size()", x.size(), right ? 1 : 0);
        check.due(call + ", code", x.code(0, place + 1), right ? number : -9);
    }

    private static void addLimits() {
        RangeScan x = new RangeScan();
        for (int p = 0; p < 24; p++) {
            check.due("add number " + p, x.add(0, p, 0, 0), p);
        }
        check.due("add(0, 0, 0, 0) with 24", x.add(0, 0, 0, 0), -2);
        check.due("add(12, 0, 0, 0) with 24", x.add(12, 0, 0, 0), -1);
        check.due("add(1, 4, 0, 0) with 24", x.add(1, 4, 0, 0), -1);
        check.due("add(10, 0, 0, 24) with 24", x.add(10, 0, 0, 24), -1);
        check.due("size() after refusals", x.size(), 24);
        check.due("code(23, 1) after refusals", x.code(23, 1), 23);
        check.due("code(24, 0)", x.code(24, 0), -9);
    }

    private static void addAndScan() {
        RangeScan x = program(row(0, 0, 0, 0));
        x.scan();
        check.due("add refused", x.add(12, 0, 0, 0), -1);
        check.due("reached(0) after a refused add", x.reached(0), 1);
        check.due("rounds() after a refused add", x.rounds(), 1);
        check.due("add done", x.add(0, 0, 0, 0), 1);
        check.due("reached(0) after an add", x.reached(0), -1);
        check.due("rounds() after an add", x.rounds(), 0);
        check.due("low(0, 0) after an add", x.low(0, 0), NONE);
        fillWithHalts(x);
        x.scan();
        check.due("add with 24", x.add(0, 0, 0, 0), -2);
        check.due("reached(0) after an add with 24", x.reached(0), 1);
    }

    private static void clearing() {
        RangeScan x = program(row(11, 0, 0, 0), row(6, 1, 1, 0), row(0, 0, 0, 0));
        check.due("before clear: scan()", x.scan(), 1);
        check.due("before clear: alarm(1)", x.alarm(1), 1);
        x.clear();
        check.due("clear: size()", x.size(), 0);
        check.due("clear: code(0, 0)", x.code(0, 0), -9);
        check.due("clear: rounds()", x.rounds(), 0);
        check.due("clear: reached(0)", x.reached(0), -1);
        check.due("clear: low(1, 0)", x.low(1, 0), NONE);
        check.due("clear: high(1, 0)", x.high(1, 0), NONE);
        check.due("clear: alarm(1)", x.alarm(1), 0);
        check.due("clear: scan()", x.scan(), -1);
        x.clear();
        check.due("clear twice: size()", x.size(), 0);
        check.due("clear: add", x.add(0, 1, 2, 3), 0);
        check.due("clear: scan() of another program", x.scan(), 0);
        interval("clear, another program", x, 0, 0, 0, 0);
    }

    private static void sizes() {
        RangeScan x = new RangeScan();
        for (int p = 0; p < 24; p++) {
            check.due("size()", x.size(), p);
            x.add(10, 0, 0, 0);
        }
        check.due("size()", x.size(), 24);
        x.scan();
        check.due("size() after scan", x.size(), 24);
    }

    private static void codes() {
        RangeScan x = program(row(1, 2, MIN, MAX), row(9, 3, 1, 23), row(0, -5, MAX, MIN));
        int[][] want = {{1, 2, MIN, MAX}, {9, 3, 1, 23}, {0, -5, MAX, MIN}};
        for (int p = 0; p < 3; p++) {
            for (int field = 0; field < 4; field++) {
                check.due("code(" + p + ", " + field + ")", x.code(p, field), want[p][field]);
            }
        }
        int[][] wrong = {{-1, 0}, {3, 0}, {24, 0}, {MIN, 0}, {MAX, 0}, {0, -1}, {0, 4}, {0, MIN}, {2, MAX}};
        for (int[] pair : wrong) {
            check.due("code(" + pair[0] + ", " + pair[1] + ")", x.code(pair[0], pair[1]), -9);
        }
    }

    private static void scanWhole() {
        check.due("scan(), empty", new RangeScan().scan(), -1);
        for (int op = 0; op <= 11; op++) {
            RangeScan x = program(row(0, 0, 0, 0), row(op, 0, 0, 0));
            check.due("scan(), last op " + op, x.scan(), op == 0 || op == 10 ? 0 : -1);
        }
        check.due("10 to itself", program(row(10, 0, 0, 0)).scan(), 0);
        check.due("10 behind the end", program(row(10, 0, 0, 1)).scan(), -1);
        check.due("9 to the last", program(row(9, 0, 1, 1), row(0, 0, 0, 0)).scan(), 0);
        check.due("9 behind the end", program(row(9, 0, 1, 2), row(0, 0, 0, 0)).scan(), -1);
        check.due("9 of one variable behind the end", program(row(9, 0, 0, 2), row(0, 0, 0, 0)).scan(), -1);
        check.due("unreached 10 behind the end",
                program(row(0, 0, 0, 0), row(10, 0, 0, 3), row(0, 0, 0, 0)).scan(), -1);
        check.due("unused c behind the end", program(row(1, 0, 0, 99), row(0, 0, 0, 99)).scan(), 0);
    }

    private static void scanAgain() {
        RangeScan x = program(row(0, 0, 0, 0));
        check.due("scan()", x.scan(), 0);
        check.due("scan() again", x.scan(), 0);
        check.due("rounds() of the latest scan", x.rounds(), 1);
        x.add(1, 0, 5, 0);
        check.due("scan(), not whole any more", x.scan(), -1);
        check.due("reached(0), not whole", x.reached(0), -1);
        check.due("rounds(), not whole", x.rounds(), 0);
        x.add(0, 0, 0, 0);
        check.due("scan(), whole again", x.scan(), 0);
        check.due("reached(2) behind a halt", x.reached(2), 0);

        RangeScan y = program(row(11, 0, 0, 0), row(9, 0, 1, 0), row(0, 0, 0, 0));
        y.scan();
        interval("before clear", y, 0, 0, MIN, 0);
        y.clear();
        y.add(9, 0, 1, 0);
        y.add(0, 0, 0, 0);
        y.scan();
        interval("a scan starts anew", y, 0, 0, 0, 0);
        interval("a scan starts anew", y, 1, 0, 0, 0);
    }

    private static void flowsOfOneInstruction() {
        RangeScan x = program(
                row(1, 0, MIN, 0), row(1, 1, MAX, 0), row(2, 2, 1, 0), row(2, 1, 0, 0),
                row(2, 0, 0, 0), row(11, 3, 0, 0), row(0, 0, 0, 0));
        check.due("scan()", x.scan(), 0);
        interval("start", x, 0, 3, 0, 0);
        interval("op 1", x, 1, 0, MIN, MIN);
        interval("op 1", x, 2, 1, MAX, MAX);
        interval("op 2", x, 3, 2, MAX, MAX);
        interval("op 2", x, 4, 1, MIN, MIN);
        interval("op 2 of itself", x, 5, 0, MIN, MIN);
        interval("op 11", x, 6, 3, MIN, MAX);
        interval("others stay", x, 6, 0, MIN, MIN);
        interval("others stay", x, 6, 1, MIN, MIN);
        interval("others stay", x, 6, 2, MAX, MAX);
    }

    private static void calculated(int op, int[] b, int[] c, long low, long high) {
        RangeScan x = afterIntervals(row(op, 2, 0, 1), b[0], b[1], c[0], c[1]);
        String what = "op " + op + " of [" + b[0] + ", " + b[1] + "] and [" + c[0] + ", " + c[1] + "]";
        check.due(what + ": reached(11)", x.reached(11), 1);
        interval(what, x, 11, 2, low, high);
        interval(what + ", b stays", x, 11, 0, b[0], b[1]);
        interval(what + ", c stays", x, 11, 1, c[0], c[1]);
    }

    private static int[] in(int low, int high) {
        return new int[] {low, high};
    }

    private static void flowsOfCalculation() {
        calculated(3, in(1, 2), in(10, 20), 11, 22);
        calculated(3, in(MAX, MAX), in(1, 2), MIN, MIN + 1);
        calculated(3, in(MIN, MIN), in(-2, -1), MAX - 1, MAX);
        calculated(3, in(MAX - 1, MAX), in(0, 0), MAX - 1, MAX);
        calculated(3, in(MAX - 1, MAX), in(1, 1), MIN, MAX);
        calculated(3, in(MIN, MIN + 1), in(-1, -1), MIN, MAX);
        calculated(3, in(MIN, MAX), in(1, 1), MIN, MAX);
        calculated(4, in(1, 2), in(10, 20), -19, -8);
        calculated(4, in(MIN, MIN), in(1, 1), MAX, MAX);
        calculated(4, in(0, 0), in(MIN, MIN), MIN, MIN);
        calculated(4, in(-1, 0), in(MIN, MIN), MIN, MAX);
        calculated(4, in(5, 6), in(5, 6), -1, 1);
        calculated(5, in(-3, 2), in(-5, 7), -21, 15);
        calculated(5, in(-3, -2), in(-5, -4), 8, 15);
        calculated(5, in(65536, 65536), in(65536, 65537), 0, 65536);
        calculated(5, in(65536, 65536), in(-65536, -65536), 0, 0);
        calculated(5, in(65536, 65536), in(32767, 32768), MIN, MAX);
        calculated(5, in(65536, 65536), in(0, 65536), MIN, MAX);
        calculated(5, in(MAX, MAX), in(MAX, MAX), 1, 1);
        calculated(5, in(MIN, MIN), in(MIN, MIN), 0, 0);
        calculated(5, in(MIN, MIN), in(-1, -1), MIN, MIN);
        calculated(5, in(MIN, MAX), in(MIN, MAX), MIN, MAX);

        RangeScan square = afterIntervals(row(5, 0, 0, 0), -2, 3, 0, 0);
        interval("a variable times itself, into itself", square, 11, 0, -6, 9);
        RangeScan difference = afterIntervals(row(4, 1, 0, 0), -2, 3, 0, 0);
        interval("a variable minus itself", difference, 11, 1, -5, 5);
        RangeScan intoC = afterIntervals(row(4, 1, 0, 1), 10, 20, 1, 2);
        interval("into c", intoC, 11, 1, 8, 19);
    }

    private static void flowsOfDivision() {
        calculated(6, in(7, 7), in(2, 2), 3, 3);
        calculated(6, in(-7, -7), in(2, 2), -3, -3);
        calculated(6, in(7, 7), in(-2, -2), -3, -3);
        calculated(6, in(-7, 9), in(2, 4), -3, 4);
        calculated(6, in(10, 20), in(-2, 5), -20, 20);
        calculated(6, in(10, 20), in(0, 5), 2, 20);
        calculated(6, in(10, 20), in(-5, 0), -20, -2);
        calculated(6, in(10, 20), in(-5, -4), -5, -2);
        calculated(6, in(MIN, MIN), in(-1, -1), MIN, MIN);
        calculated(6, in(MIN, MIN + 1), in(-1, -1), MIN, MAX);
        calculated(6, in(MIN, MIN), in(-2, -1), MIN, MAX);
        calculated(6, in(MIN + 1, MAX), in(-1, 1), MIN + 1, MAX);
        calculated(6, in(MIN, MAX), in(2, MAX), -1073741824, 1073741823);
        calculated(6, in(MIN, MAX), in(MIN, MAX), MIN, MAX);

        RangeScan zero = afterIntervals(row(6, 2, 0, 1), 1, 1, 0, 0);
        check.due("by [0, 0]: scan()", zero.scan(), 1);
        check.due("by [0, 0]: reached(10)", zero.reached(10), 1);
        check.due("by [0, 0]: reached(11)", zero.reached(11), 0);
        RangeScan itself = afterIntervals(row(6, 0, 0, 0), -4, 8, 0, 0);
        interval("a variable divided by itself", itself, 11, 0, -8, 8);
    }

    private static void arrayFlow(int low, int high, int reached, int alarm) {
        for (int op = 7; op <= 8; op++) {
            RangeScan x = afterIntervals(row(op, 1, 0, 0), low, high, 5, 6);
            String what = "op " + op + " at [" + low + ", " + high + "]";
            check.due(what + ": reached(11)", x.reached(11), reached);
            check.due(what + ": alarm(10)", x.alarm(10), alarm);
            check.due(what + ": scan()", x.scan(), alarm == 0 ? 0 : 1);
            if (reached == 1) {
                interval(what + ", index stays", x, 11, 0, low, high);
                interval(what, x, 11, 1, op == 7 ? MIN : 5, op == 7 ? MAX : 6);
            }
        }
    }

    private static void flowsOfArray() {
        arrayFlow(0, 7, 1, 0);
        arrayFlow(0, 0, 1, 0);
        arrayFlow(7, 7, 1, 0);
        arrayFlow(-1, 7, 1, 2);
        arrayFlow(0, 8, 1, 2);
        arrayFlow(-1, 0, 1, 2);
        arrayFlow(7, 8, 1, 2);
        arrayFlow(MIN, MAX, 1, 2);
        arrayFlow(8, 8, 0, 2);
        arrayFlow(-1, -1, 0, 2);
        arrayFlow(MIN, -1, 0, 2);
        arrayFlow(8, MAX, 0, 2);

        RangeScan own = program(row(7, 0, 0, 0), row(0, 0, 0, 0));
        check.due("op 7 into its index: scan()", own.scan(), 0);
        interval("op 7 into its index", own, 1, 0, MIN, MAX);
    }

    /** What flows from "if 0 is less than 1" to the next instruction, and on to instruction 22. */
    private static RangeScan less(int[] a, int[] b) {
        return afterIntervals(row(9, 0, 1, 22), a[0], a[1], b[0], b[1]);
    }

    private static void flowsOfLess() {
        RangeScan both = less(in(0, 10), in(3, 7));
        interval("0..10 not less than 3..7", both, 11, 0, 3, 10);
        interval("0..10 not less than 3..7", both, 11, 1, 3, 7);
        RangeScan wide = less(in(3, 7), in(0, 10));
        interval("3..7 not less than 0..10", wide, 11, 0, 3, 7);
        interval("3..7 not less than 0..10", wide, 11, 1, 0, 7);

        RangeScan never = less(in(5, 9), in(1, 5));
        check.due("never less: reached(11)", never.reached(11), 1);
        interval("never less", never, 11, 0, 5, 9);
        interval("never less", never, 11, 1, 1, 5);
        RangeScan always = less(in(1, 4), in(5, 9));
        check.due("always less: reached(11)", always.reached(11), 0);

        lessAway(in(0, 10), in(3, 7), in(0, 6), in(3, 7));
        lessAway(in(3, 7), in(0, 10), in(3, 7), in(4, 10));
        lessAway(in(1, 4), in(5, 9), in(1, 4), in(5, 9));
        lessAway(in(MIN, MAX), in(MIN, MAX), in(MIN, MAX - 1), in(MIN + 1, MAX));
        lessAway(in(4, 5), in(4, 5), in(4, 4), in(5, 5));
        lessAway(in(5, 9), in(1, 5), null, null);
        lessAway(in(MIN, MAX), in(MIN, MIN), null, null);
        lessAway(in(MAX, MAX), in(MIN, MAX), null, null);

        RangeScan one = program(row(11, 0, 0, 0), row(9, 0, 0, 3), row(0, 0, 0, 0), row(0, 0, 0, 0));
        one.scan();
        interval("less than itself", one, 2, 0, MIN, MAX);
        check.due("less than itself: reached(3)", one.reached(3), 0);
        RangeScan here = program(row(11, 0, 0, 0), row(9, 0, 1, 2), row(0, 0, 0, 0));
        here.scan();
        interval("both flows to one instruction", here, 2, 0, MIN, MAX);
    }

    /** Goes away over instruction 12, which only the flow to c reaches; null: nothing flows. */
    private static void lessAway(int[] a, int[] b, int[] wantA, int[] wantB) {
        RangeScan x = new RangeScan();
        addInterval(x, 0, a[0], a[1]);
        addInterval(x, 1, b[0], b[1]);
        x.add(9, 0, 1, 12);
        fillWithHalts(x);
        x.scan();
        String what = "[" + a[0] + ", " + a[1] + "] less than [" + b[0] + ", " + b[1] + "]";
        check.due(what + ": reached(12)", x.reached(12), wantA == null ? 0 : 1);
        if (wantA != null) {
            interval(what, x, 12, 0, wantA[0], wantA[1]);
            interval(what, x, 12, 1, wantB[0], wantB[1]);
        }
    }

    private static void scanLoops() {
        RangeScan up = program(
                row(1, 1, 8, 0), row(1, 2, 1, 0), row(9, 0, 1, 4), row(0, 0, 0, 0),
                row(8, 3, 0, 0), row(3, 0, 0, 2), row(10, 0, 0, 2));
        check.due("counting up: scan()", up.scan(), 0);
        check.due("counting up: rounds()", up.rounds(), 3);
        interval("counting up, head", up, 2, 0, 0, 8);
        interval("counting up, inside", up, 4, 0, 0, 7);
        interval("counting up, after", up, 3, 0, 8, MAX);

        RangeScan down = program(
                row(1, 0, 7, 0), row(1, 2, 1, 0), row(9, 0, 3, 6), row(8, 1, 0, 0),
                row(4, 0, 0, 2), row(10, 0, 0, 2), row(0, 0, 0, 0));
        check.due("counting down: scan()", down.scan(), 0);
        interval("counting down, head", down, 2, 0, -1, 7);
        interval("counting down, inside", down, 3, 0, 0, 7);
        interval("counting down, after", down, 6, 0, MIN, -1);

        RangeScan always = program(row(1, 1, 1, 0), row(3, 0, 0, 1), row(10, 0, 0, 1));
        check.due("without an end: scan()", always.scan(), 0);
        interval("without an end", always, 1, 0, MIN, MAX);

        RangeScan toStart = program(row(1, 0, 5, 0), row(10, 0, 0, 0));
        toStart.scan();
        interval("back to instruction 0", toStart, 0, 0, 0, 5);
        check.due("back to instruction 0: rounds()", toStart.rounds(), 2);
    }

    private static void scanJoins() {
        RangeScan x = program(
                row(11, 0, 0, 0), row(9, 0, 1, 4), row(1, 2, 3, 0), row(10, 0, 0, 5),
                row(1, 2, -4, 0), row(0, 0, 0, 0));
        x.scan();
        interval("join of two ways", x, 5, 2, -4, 3);
        interval("join of two ways", x, 5, 0, MIN, MAX);
        interval("one way", x, 3, 2, 3, 3);
        interval("one way", x, 4, 0, MIN, -1);
        check.due("join of two ways: rounds()", x.rounds(), 2);
    }

    /** The inner head was widened twice; one step takes back only what the flows show at once. */
    private static void lastStepIsOneStep() {
        RangeScan x = program(
                row(1, 1, 8, 0), row(1, 2, 1, 0), row(9, 0, 1, 4), row(0, 0, 0, 0),
                row(3, 0, 0, 2), row(2, 3, 0, 0), row(10, 0, 0, 2));
        x.scan();
        interval("head", x, 2, 0, 0, 8);
        interval("a step behind the head", x, 4, 0, 0, 7);
        interval("head, copy", x, 2, 3, 0, 8);
        interval("body, copy still as wide as the rounds left it", x, 4, 3, 0, MAX);
        interval("after, as wide as the rounds left it", x, 3, 0, 8, MAX);
    }

    /** In the last step instruction 2 gets what flows from the found, not from the new state of 1. */
    private static void lastStepIsAtOnce() {
        RangeScan x = program(
                row(2, 1, 1, 0), row(2, 1, 1, 0), row(2, 1, 1, 0), row(1, 1, 5, 0),
                row(9, 0, 1, 0), row(0, 0, 0, 0));
        x.scan();
        interval("first", x, 0, 1, 0, 5);
        interval("second", x, 1, 1, 0, MAX);
        interval("third", x, 2, 1, 0, MAX);
    }

    private static void roundCounts() {
        RangeScan halt = program(row(0, 0, 0, 0));
        check.due("rounds() before scan", halt.rounds(), 0);
        halt.scan();
        check.due("rounds() of a halt", halt.rounds(), 1);
        RangeScan circle = program(row(10, 0, 0, 0));
        circle.scan();
        check.due("rounds() of 10 to itself", circle.rounds(), 1);
        RangeScan line = new RangeScan();
        fillWithHalts(line);
        line.scan();
        check.due("rounds() of halts", line.rounds(), 1);
        RangeScan inputs = program(row(11, 0, 0, 0), row(11, 1, 0, 0), row(0, 0, 0, 0));
        inputs.scan();
        check.due("rounds() of a line", inputs.rounds(), 2);
        RangeScan back = program(
                row(10, 0, 0, 3), row(11, 0, 0, 0), row(0, 0, 0, 0), row(10, 0, 0, 1));
        back.scan();
        check.due("rounds() of a way back", back.rounds(), 3);
        check.due("the way back: reached(2)", back.reached(2), 1);
    }

    private static void reaching() {
        RangeScan x = program(row(10, 0, 0, 2), row(1, 0, 9, 0), row(0, 0, 0, 0));
        check.due("reached(0) before scan", x.reached(0), -1);
        x.scan();
        check.due("reached(0)", x.reached(0), 1);
        check.due("reached(1)", x.reached(1), 0);
        check.due("reached(2)", x.reached(2), 1);
        int[] wrong = {-1, 3, 23, 24, MIN, MAX};
        for (int p : wrong) {
            check.due("reached(" + p + ")", x.reached(p), -1);
        }
    }

    private static void bounds() {
        RangeScan x = program(row(11, 3, 0, 0), row(10, 0, 0, 3), row(0, 0, 0, 0), row(0, 0, 0, 0));
        interval("before scan", x, 0, 0, NONE, NONE);
        x.scan();
        interval("input", x, 3, 3, MIN, MAX);
        interval("nowhere", x, 2, 3, NONE, NONE);
        int[] wrong = {-1, 4, 24, MIN, MAX};
        for (int number : wrong) {
            interval("no such instruction", x, number, 0, NONE, NONE);
            interval("no such variable", x, 0, number, NONE, NONE);
            interval("neither", x, number, number, NONE, NONE);
        }
    }

    private static void alarms() {
        divisionAlarm(0, 0, 1);
        divisionAlarm(-1, 0, 1);
        divisionAlarm(0, 1, 1);
        divisionAlarm(-1, 1, 1);
        divisionAlarm(MIN, MAX, 1);
        divisionAlarm(1, MAX, 0);
        divisionAlarm(MIN, -1, 0);

        RangeScan x = program(
                row(6, 0, 0, 0), row(6, 0, 0, 0), row(0, 0, 0, 0));
        check.due("alarm(0) before scan", x.alarm(0), 0);
        check.due("behind a sure break: scan()", x.scan(), 1);
        check.due("behind a sure break: alarm(0)", x.alarm(0), 1);
        check.due("behind a sure break: alarm(1)", x.alarm(1), 0);
        int[] wrong = {-1, 3, 24, MIN, MAX};
        for (int p : wrong) {
            check.due("alarm(" + p + ")", x.alarm(p), 0);
        }
        x.add(0, 0, 0, 0);
        check.due("alarm(0) after add", x.alarm(0), 0);

        RangeScan many = program(
                row(11, 0, 0, 0), row(6, 1, 0, 0), row(7, 1, 0, 0), row(8, 1, 0, 0),
                row(3, 1, 0, 0), row(9, 0, 1, 0), row(0, 0, 0, 0));
        check.due("three alarms: scan()", many.scan(), 3);
        int[] want = {0, 1, 2, 2, 0, 0, 0};
        for (int p = 0; p < want.length; p++) {
            check.due("three alarms: alarm(" + p + ")", many.alarm(p), want[p]);
        }
    }

    private static void divisionAlarm(int low, int high, int alarm) {
        RangeScan x = afterIntervals(row(6, 2, 0, 1), 5, 6, low, high);
        String what = "division by [" + low + ", " + high + "]";
        check.due(what + ": alarm(10)", x.alarm(10), alarm);
        check.due(what + ": scan()", x.scan(), alarm);
    }

    private static void questionsChangeNothing() {
        RangeScan x = program(row(11, 0, 0, 0), row(6, 1, 0, 0), row(0, 0, 0, 0));
        x.scan();
        for (int time = 0; time < 2; time++) {
            check.due("size()", x.size(), 3);
            check.due("code(1, 0)", x.code(1, 0), 6);
            check.due("code(9, 9)", x.code(9, 9), -9);
            check.due("rounds()", x.rounds(), 2);
            check.due("reached(2)", x.reached(2), 1);
            check.due("reached(9)", x.reached(9), -1);
            interval("twice", x, 1, 0, MIN, MAX);
            check.due("alarm(1)", x.alarm(1), 1);
            check.due("alarm(9)", x.alarm(9), 0);
        }
    }
}
