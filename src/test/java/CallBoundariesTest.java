/** The boundaries that promises 1 to 11 name; each function tests the sentence that it cites. */
public final class CallBoundariesTest extends Bench {
    private static final int[] NO_INSTRUCTION_OF_THREE = {-1, 3, 4, 23, 24, MIN, MAX};
    private static final int[] NO_VARIABLE = {-1, 4, MIN, MAX};

    public static void main(String[] args) {
        newObject();
        addOp();
        addVariables();
        addPlaces();
        addUnusedNumbers();
        addWhenFull();
        addForgetsScan();
        refusedAddKeepsScan();
        clearEmpties();
        clearOfEveryState();
        sizes();
        codeOfInstruction();
        codeOfField();
        scanNotWhole();
        scanFewestAndMostAlarms();
        rounds();
        roundsOfLatest();
        reachedInstruction();
        reachedNotScanned();
        boundsOfInstruction();
        boundsOfVariable();
        boundsNotScanned();
        alarmOfDivision();
        alarmOfArray();
        alarmLooksAtItsVariable();
        alarmAfterLastStep();
        alarmOfOtherOps();
        alarmElse();
        check.finish();
    }

    /** Promise 1: "An empty program, not scanned." */
    private static void newObject() {
        RangeScan x = new RangeScan();
        check.due("new: size()", x.size(), 0);
        check.due("new: code(0, 0)", x.code(0, 0), -9);
        notScanned("new", x);
        check.due("new: scan()", x.scan(), -1);
        notScanned("new, scan() refused", x);
        check.due("new: add(0, 0, 0, 0)", x.add(0, 0, 0, 0), 0);
        check.due("new: scan()", x.scan(), 0);
        RangeScan other = new RangeScan();
        check.due("another new one: size()", other.size(), 0);
        notScanned("another new one", other);
    }

    private static void tryAdd(int[] row, boolean right) {
        RangeScan x = new RangeScan();
        check.due(text(row), add(x, row), right ? 0 : -1);
        check.due(text(row) + ", size()", x.size(), right ? 1 : 0);
        for (int field = 0; field < 4; field++) {
            int want = right ? row[field] : -9;
            check.due(text(row) + ", code(0, " + field + ")", x.code(0, field), want);
        }
        check.due(text(row) + ", then add(0, 0, 0, 0)", x.add(0, 0, 0, 0), right ? 1 : 0);
    }

    /** Promise 2: "-1 if op is not 0 .. 11". */
    private static void addOp() {
        int[] wrong = {-1, 12, MIN, MAX};
        for (int op : wrong) {
            tryAdd(row(op), false);
        }
        for (int op = 0; op <= 11; op++) {
            tryAdd(row(op), true);
        }
    }

    /** Promise 2: "a variable (a in ops 1 to 9 and 11, b in 2 to 9, c in 3 to 6) is not 0 .. 3". */
    private static void addVariables() {
        int[][] opsOfPlace = {
            {1, 2, 3, 4, 5, 6, 7, 8, 9, 11}, {2, 3, 4, 5, 6, 7, 8, 9}, {3, 4, 5, 6}
        };
        for (int place = 1; place <= 3; place++) {
            for (int op : opsOfPlace[place - 1]) {
                tryNumbers(op, place, new int[] {0, 1, 2, 3}, true);
                tryNumbers(op, place, NO_VARIABLE, false);
            }
        }
    }

    /** Promise 2: "or c in ops 9 and 10 is not 0 .. 23". */
    private static void addPlaces() {
        for (int op = 9; op <= 10; op++) {
            tryNumbers(op, 3, new int[] {0, 1, 3, 4, 22, 23}, true);
            tryNumbers(op, 3, new int[] {-1, 24, 25, MIN, MAX}, false);
        }
    }

    /** Promise 2: "Numbers that an op does not use may be any." */
    private static void addUnusedNumbers() {
        int[][] opsOfPlace = {{0, 10}, {0, 1, 10, 11}, {0, 1, 2, 7, 8, 11}};
        int[] any = {MIN, -1, 0, 3, 4, 23, 24, MAX};
        for (int place = 1; place <= 3; place++) {
            for (int op : opsOfPlace[place - 1]) {
                tryNumbers(op, place, any, true);
            }
        }
        RangeScan x = scanned(row(1, 0, MAX, MIN), row(2, 1, 0, MAX), row(11, 2, -1, 24),
                row(1, 3, 7, -1), row(7, 2, 3, -1), row(8, 2, 3, 24), row(10, MIN, MAX, 7),
                row(0, MAX, MIN, 24));
        check.due("unused numbers: reached(7)", x.reached(7), 1);
        interval("unused numbers", x, 7, 1, MAX, MAX);
    }

    private static void tryNumbers(int op, int place, int[] numbers, boolean right) {
        for (int number : numbers) {
            int[] row = row(op);
            row[place] = number;
            tryAdd(row, right);
        }
    }

    /** Promise 2: "else -2 if there are 24". */
    private static void addWhenFull() {
        RangeScan x = new RangeScan();
        for (int p = 0; p < 24; p++) {
            check.due("add number " + p, x.add(1, 3, p, 0), p);
        }
        int[][] right = {row(0), row(1, 3, 99), row(9, 3, 3, 23), row(10, -1, -1, 23), row(11, 3)};
        for (int[] row : right) {
            check.due("with 24: " + text(row), add(x, row), -2);
        }
        int[][] wrong = {row(-1), row(12), row(1, 4), row(2, 0, -1), row(3, 0, 0, 4), row(9, 0, 0, 24)};
        for (int[] row : wrong) {
            check.due("with 24: " + text(row), add(x, row), -1);
        }
        check.due("with 24: size()", x.size(), 24);
        check.due("with 24: code(23, 2)", x.code(23, 2), 23);
        check.due("with 24: code(24, 0)", x.code(24, 0), -9);
        check.due("with 24, the last op 1: scan()", x.scan(), -1);
    }

    /** Promise 2: "If it was done, it is not scanned any more." */
    private static void addForgetsScan() {
        for (int op = 0; op <= 11; op++) {
            RangeScan x = scanned(row(11, 0), row(6, 1, 0, 0), row(0));
            check.due("alarm(1) before add", x.alarm(1), 1);
            check.due("add(" + op + ", 0, 0, 0)", x.add(op, 0, 0, 0), 3);
            notScanned("after add of op " + op, x);
        }
        RangeScan last = scanned(row(0));
        for (int p = 1; p < 24; p++) {
            last.scan();
            check.due("reached(0) before add " + p, last.reached(0), 1);
            check.due("add(0, 0, 0, 0)", last.add(0, 0, 0, 0), p);
            check.due("reached(0) after add " + p, last.reached(0), -1);
        }
    }

    /** Promise 2, the other side of "If it was done". */
    private static void refusedAddKeepsScan() {
        RangeScan x = scanned(row(11, 0), row(6, 1, 0, 0), row(0));
        check.due("refused by -1", x.add(12, 0, 0, 0), -1);
        check.due("after -1: rounds()", x.rounds(), 2);
        check.due("after -1: reached(2)", x.reached(2), 1);
        check.due("after -1: alarm(1)", x.alarm(1), 1);
        interval("after -1", x, 1, 0, MIN, MAX);
        RangeScan full = halts(24);
        full.scan();
        check.due("refused by -2", full.add(0, 0, 0, 0), -2);
        check.due("after -2: rounds()", full.rounds(), 1);
        check.due("after -2: reached(0)", full.reached(0), 1);
        interval("after -2", full, 0, 3, 0, 0);
    }

    /** Promise 3: "The program is empty, and not scanned." */
    private static void clearEmpties() {
        RangeScan x = scanned(row(11, 0), row(6, 1, 0, 0), row(0));
        x.clear();
        check.due("clear: size()", x.size(), 0);
        check.due("clear: code(0, 0)", x.code(0, 0), -9);
        check.due("clear: code(2, 3)", x.code(2, 3), -9);
        notScanned("clear", x);
        check.due("clear: scan()", x.scan(), -1);
        check.due("clear: add", x.add(10, 1, 2, 0), 0);
        check.due("clear: scan() of another program", x.scan(), 0);
        check.due("clear: rounds() of another program", x.rounds(), 1);
        check.due("clear: reached(1) of another program", x.reached(1), -1);
        check.due("clear: code(1, 0) of another program", x.code(1, 0), -9);
        interval("clear, another program", x, 0, 0, 0, 0);
    }

    /** Promise 3, the same sentence: from empty, not whole, full, and full and scanned. */
    private static void clearOfEveryState() {
        RangeScan empty = new RangeScan();
        RangeScan notWhole = scanned(row(1));
        RangeScan full = halts(24);
        RangeScan fullScanned = halts(24);
        fullScanned.scan();
        RangeScan[] all = {empty, notWhole, full, fullScanned};
        for (RangeScan x : all) {
            x.clear();
            check.same("clear", Answers.of(x), Answers.of(new RangeScan()));
            x.clear();
            for (int p = 0; p < 24; p++) {
                check.due("clear: add", x.add(0, 0, 0, 0), p);
            }
            check.due("clear: add with 24 again", x.add(0, 0, 0, 0), -2);
        }
    }

    /** Promise 4: none, one, 24, and after refused calls. */
    private static void sizes() {
        RangeScan x = new RangeScan();
        for (int p = 0; p < 24; p++) {
            check.due("size()", x.size(), p);
            x.add(12, 0, 0, 0);
            check.due("size() after -1", x.size(), p);
            x.add(10, 0, 0, 0);
        }
        check.due("size()", x.size(), 24);
        x.add(10, 0, 0, 0);
        check.due("size() after -2", x.size(), 24);
        x.scan();
        check.due("size() after scan", x.size(), 24);
        x.clear();
        check.due("size() after clear", x.size(), 0);
        x.scan();
        check.due("size() after a refused scan", x.size(), 0);
    }

    /** Promise 5: "-9 if there is no such instruction". */
    private static void codeOfInstruction() {
        RangeScan x = program(row(1, 2, MIN, MAX), row(9, 3, 1, 23), row(0, -5, MAX, MIN));
        check.due("code(0, 0)", x.code(0, 0), 1);
        check.due("code(2, 0)", x.code(2, 0), 0);
        for (int p : NO_INSTRUCTION_OF_THREE) {
            for (int field = 0; field < 4; field++) {
                check.due("code(" + p + ", " + field + ")", x.code(p, field), -9);
            }
        }
        check.due("code(3, 0) before add", x.code(3, 0), -9);
        x.add(10, 7, 8, 9);
        check.due("code(3, 0) after add", x.code(3, 0), 10);
        RangeScan full = halts(23);
        full.add(10, 5, 6, 7);
        check.due("with 24: code(23, 3)", full.code(23, 3), 7);
        check.due("with 24: code(24, 0)", full.code(24, 0), -9);
        check.due("empty: code(0, 0)", new RangeScan().code(0, 0), -9);
    }

    /** Promise 5: "the op (field 0), a (1), b (2) or c (3); -9 if there is no such .. field". */
    private static void codeOfField() {
        int[][] rows = {row(1, 2, MIN, MAX), row(9, 3, 1, 23), row(0, -5, MAX, MIN)};
        RangeScan x = program(rows);
        int[] wrong = {-1, 4, MIN, MAX};
        for (int p = 0; p < 3; p++) {
            for (int field = 0; field < 4; field++) {
                check.due("code(" + p + ", " + field + ")", x.code(p, field), rows[p][field]);
            }
            for (int field : wrong) {
                check.due("code(" + p + ", " + field + ")", x.code(p, field), -9);
            }
        }
        check.due("code(-1, 4)", x.code(-1, 4), -9);
        check.due("code(1, -1), where instruction 0 has its c", x.code(1, -1), -9);
        check.due("code(-1, 7), where instruction 0 has its c", x.code(-1, 7), -9);
    }

    /** Promise 6: "-1 if the program is not whole (then it is not scanned any more)". */
    private static void scanNotWhole() {
        RangeScan x = scanned(row(11, 0), row(6, 1, 0, 0), row(0));
        check.due("whole: reached(2)", x.reached(2), 1);
        x.add(1, 0, 5, 0);
        check.due("not whole: scan()", x.scan(), -1);
        notScanned("not whole", x);
        check.due("not whole: scan() again", x.scan(), -1);
        check.due("not whole: size()", x.size(), 4);
        check.due("not whole: code(3, 2)", x.code(3, 2), 5);
        check.due("not whole: add", x.add(0, 0, 0, 0), 4);
        check.due("whole again: scan()", x.scan(), 1);
        check.due("whole again: reached(4)", x.reached(4), 0);
        check.due("whole again: rounds()", x.rounds(), 2);
    }

    /** Promise 6: "how many alarms there are": none, and one at each but the last of 24. */
    private static void scanFewestAndMostAlarms() {
        check.due("a halt: scan()", program(row(0)).scan(), 0);
        check.due("one alarm: scan()", program(row(6, 0, 0, 0), row(0)).scan(), 1);
        RangeScan x = new RangeScan();
        for (int p = 0; p < 23; p++) {
            x.add(7, 0, 0, 0);
        }
        x.add(10, 0, 0, 0);
        check.due("23 alarms: scan()", x.scan(), 23);
        check.due("23 alarms: scan() again", x.scan(), 23);
        check.due("23 alarms: alarm(0)", x.alarm(0), 2);
        check.due("23 alarms: alarm(22)", x.alarm(22), 2);
        check.due("23 alarms: alarm(23)", x.alarm(23), 0);
    }

    /** Promise 7: "the last one that changed nothing included; 0 if it is not scanned". */
    private static void rounds() {
        RangeScan x = new RangeScan();
        check.due("empty: rounds()", x.rounds(), 0);
        x.add(0, 0, 0, 0);
        check.due("before scan: rounds()", x.rounds(), 0);
        x.scan();
        check.due("nothing ever changed: rounds()", x.rounds(), 1);
        x.add(12, 0, 0, 0);
        check.due("after a refused add: rounds()", x.rounds(), 1);
        x.add(1, 0, 0, 0);
        check.due("after an add: rounds()", x.rounds(), 0);
        x.scan();
        check.due("after a refused scan: rounds()", x.rounds(), 0);
        x.add(0, 0, 0, 0);
        x.scan();
        x.clear();
        check.due("after clear: rounds()", x.rounds(), 0);
        check.due("one round changed: rounds()", scanned(row(1), row(0)).rounds(), 2);
    }

    /** Promise 7: "How many rounds the latest scan took". */
    private static void roundsOfLatest() {
        RangeScan x = scanned(row(1, 0, 5), row(2), row(1, 0, 6), row(10, 0, 0, 1));
        check.due("a loop: rounds()", x.rounds(), 3);
        x.scan();
        check.due("the loop again: rounds()", x.rounds(), 3);
        x.clear();
        x.add(0, 0, 0, 0);
        x.scan();
        check.due("then a halt: rounds()", x.rounds(), 1);
        x.scan();
        check.due("the halt again: rounds()", x.rounds(), 1);
    }

    /** Promise 8: "1 if instruction p has a state, 0 if it is nowhere; -1 if there is no such". */
    private static void reachedInstruction() {
        RangeScan x = scanned(row(10, 0, 0, 2), row(1, 0, 9), row(0));
        check.due("reached(0)", x.reached(0), 1);
        check.due("reached(1)", x.reached(1), 0);
        check.due("reached(2)", x.reached(2), 1);
        for (int p : NO_INSTRUCTION_OF_THREE) {
            check.due("reached(" + p + ")", x.reached(p), -1);
        }
        RangeScan full = halts(23);
        full.add(10, 0, 0, 23);
        full.scan();
        check.due("with 24: reached(23)", full.reached(23), 0);
        check.due("with 24: reached(24)", full.reached(24), -1);
    }

    /** Promise 8: "-1 if .. it is not scanned". */
    private static void reachedNotScanned() {
        RangeScan x = program(row(0), row(0));
        check.due("before scan: reached(0)", x.reached(0), -1);
        check.due("before scan: reached(1)", x.reached(1), -1);
        check.due("before scan: reached(2)", x.reached(2), -1);
        x.scan();
        check.due("scanned: reached(0)", x.reached(0), 1);
        check.due("scanned: reached(1)", x.reached(1), 0);
        x.add(3, 0, 0, 0);
        check.due("after add: reached(0)", x.reached(0), -1);
        x.scan();
        check.due("not whole: reached(0)", x.reached(0), -1);
        x.clear();
        check.due("after clear: reached(0)", x.reached(0), -1);
    }

    /** Promises 9 and 10: "4294967296 if reached(p) is not 1". */
    private static void boundsOfInstruction() {
        RangeScan x = scanned(row(11, 3), row(10, 0, 0, 2), row(10, 0, 0, 4), row(0), row(0));
        interval("the first", x, 0, 3, 0, 0);
        interval("the last", x, 4, 3, MIN, MAX);
        interval("nowhere", x, 3, 3, NONE, NONE);
        int[] wrong = {-1, 5, 6, 23, 24, MIN, MAX};
        for (int p : wrong) {
            for (int variable = 0; variable < 4; variable++) {
                interval("no such instruction", x, p, variable, NONE, NONE);
            }
            interval("neither", x, p, p, NONE, NONE);
        }
        RangeScan full = new RangeScan();
        for (int p = 0; p < 23; p++) {
            full.add(1, 3, p, 0);
        }
        full.add(0, 0, 0, 0);
        full.scan();
        interval("with 24", full, 23, 3, 22, 22);
        interval("with 24", full, 24, 0, NONE, NONE);
    }

    /** Promises 9 and 10: "or there is no such variable". */
    private static void boundsOfVariable() {
        RangeScan x = scanned(row(1, 0, 10), row(1, 1, 11), row(1, 2, 12), row(1, 3, 13), row(0));
        for (int variable = 0; variable < 4; variable++) {
            interval("each variable", x, 4, variable, 10 + variable, 10 + variable);
        }
        for (int p = 0; p < 5; p++) {
            for (int variable : NO_VARIABLE) {
                interval("no such variable", x, p, variable, NONE, NONE);
            }
        }
    }

    /** Promises 9 and 10: "if reached(p) is not 1", as it is not scanned. */
    private static void boundsNotScanned() {
        RangeScan x = program(row(11, 0), row(0));
        interval("before scan", x, 0, 0, NONE, NONE);
        x.scan();
        interval("scanned", x, 1, 0, MIN, MAX);
        x.add(11, 0, 0, 0);
        interval("after add", x, 1, 0, NONE, NONE);
        x.scan();
        interval("not whole", x, 1, 0, NONE, NONE);
        x.add(0, 0, 0, 0);
        x.scan();
        interval("scanned again", x, 1, 0, MIN, MAX);
        x.clear();
        interval("after clear", x, 1, 0, NONE, NONE);
    }

    /** Promise 11: "1 if instruction p has a state, op 6, and 0 is in the interval of c". */
    private static void alarmOfDivision() {
        int[][] with0 = {in(0, 0), in(-1, 0), in(0, 1), in(-1, 1), in(MIN, 0), in(0, MAX), in(MIN, MAX)};
        for (int[] divisor : with0) {
            tryAlarm(row(6, 2, 0, 1), in(5, 6), divisor, 1);
        }
        int[][] without0 = {in(1, 1), in(-1, -1), in(1, MAX), in(MIN, -1), in(MIN, MIN), in(MAX, MAX)};
        for (int[] divisor : without0) {
            tryAlarm(row(6, 2, 0, 1), in(5, 6), divisor, 0);
        }
    }

    /** Promise 11: "2 if it has a state, op 7 or 8, and the interval of b is not within 0 .. 7". */
    private static void alarmOfArray() {
        int[][] within = {in(0, 7), in(0, 0), in(7, 7), in(1, 6), in(0, 6), in(1, 7)};
        int[][] notWithin = {
            in(-1, 7), in(0, 8), in(-1, 8), in(-1, -1), in(8, 8), in(-1, 0), in(7, 8),
            in(MIN, 7), in(0, MAX), in(MIN, MAX), in(MIN, MIN), in(MAX, MAX)
        };
        for (int op = 7; op <= 8; op++) {
            for (int[] index : within) {
                tryAlarm(row(op, 2, 0), index, in(5, 6), 0);
            }
            for (int[] index : notWithin) {
                tryAlarm(row(op, 2, 0), index, in(5, 6), 2);
            }
        }
    }

    /** Promise 11: it is c that op 6 divides by, and b that ops 7 and 8 have their cell from. */
    private static void alarmLooksAtItsVariable() {
        tryAlarm(row(6, 0, 0, 1), in(0, 99), in(1, 1), 0);
        tryAlarm(row(6, 1, 0, 0), in(1, 1), in(0, 0), 0);
        tryAlarm(row(6, 0, 1, 0), in(0, 0), in(1, 1), 1);
        for (int op = 7; op <= 8; op++) {
            tryAlarm(row(op, 1, 0, 1), in(0, 7), in(8, 9), 0);
            tryAlarm(row(op, 0, 1, 0), in(0, 7), in(8, 9), 2);
        }
    }

    /** Promise 11: "the interval" is that of the state after the last step, not the widened one. */
    private static void alarmAfterLastStep() {
        for (int op = 7; op <= 8; op++) {
            alarmInLoop(row(op, 3, 0), 0, 7, 0);
            alarmInLoop(row(op, 3, 0), 7, 0, 0);
            alarmInLoop(row(op, 3, 0), 0, 8, 2);
            alarmInLoop(row(op, 3, 0), 7, -1, 2);
        }
        alarmInLoop(row(6, 3, 1, 0), 2, 1, 0);
        alarmInLoop(row(6, 3, 1, 0), -2, -1, 0);
        alarmInLoop(row(6, 3, 1, 0), 1, 0, 1);
        alarmInLoop(row(6, 3, 1, 0), -1, 0, 1);
    }

    /** The instruction is the loop's head, where variable 0 is first the one number, then the other. */
    private static void alarmInLoop(int[] row, int first, int then, int alarm) {
        RangeScan x = program(row(1, 0, first), row, row(1, 0, then), row(10, 0, 0, 1));
        String what = text(row) + " in a loop with " + first + ", then " + then;
        check.due(what + ": scan()", x.scan(), alarm == 0 ? 0 : 1);
        check.due(what + ": alarm(1)", x.alarm(1), alarm);
        interval(what, x, 1, 0, Math.min(first, then), Math.max(first, then));
    }

    /** Promise 11: "else 0", for the ops that neither divide nor use the array. */
    private static void alarmOfOtherOps() {
        int[] others = {0, 1, 2, 3, 4, 5, 9, 10, 11};
        for (int op : others) {
            int c = op == 9 || op == 10 ? NEXT : 1;
            tryAlarm(row(op, 2, 0, c), in(MIN, MAX), in(-1, 1), 0);
        }
    }

    private static void tryAlarm(int[] row, int[] of0, int[] of1, int alarm) {
        RangeScan x = afterIntervals(row, of0, of1);
        String what = text(row) + " with [" + of0[0] + ", " + of0[1] + "], [" + of1[0] + ", " + of1[1] + "]";
        check.due(what + ": alarm(" + HERE + ")", x.alarm(HERE), alarm);
        check.due(what + ": scan()", x.scan(), alarm == 0 ? 0 : 1);
    }

    /** Promise 11: "else 0 (also if there is no such instruction or it is not scanned)". */
    private static void alarmElse() {
        RangeScan x = program(row(6, 0, 0, 0), row(6, 0, 0, 0), row(0));
        check.due("before scan: alarm(0)", x.alarm(0), 0);
        check.due("behind a sure break: scan()", x.scan(), 1);
        check.due("behind a sure break: alarm(0)", x.alarm(0), 1);
        check.due("nowhere: alarm(1)", x.alarm(1), 0);
        for (int p : NO_INSTRUCTION_OF_THREE) {
            check.due("alarm(" + p + ")", x.alarm(p), 0);
        }
        x.add(12, 0, 0, 0);
        check.due("after a refused add: alarm(0)", x.alarm(0), 1);
        x.add(7, 0, 0, 0);
        check.due("after add: alarm(0)", x.alarm(0), 0);
        x.scan();
        check.due("not whole: alarm(0)", x.alarm(0), 0);
        x.clear();
        check.due("after clear: alarm(0)", x.alarm(0), 0);
        RangeScan nowhere = scanned(row(0), row(7, 0, 0), row(8, 0, 0), row(6, 0, 0, 0), row(0));
        for (int p = 0; p < 5; p++) {
            check.due("all nowhere: alarm(" + p + ")", nowhere.alarm(p), 0);
        }
    }
}
