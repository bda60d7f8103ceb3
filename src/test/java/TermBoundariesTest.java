/** The boundaries that the document's terms name; each function tests the sentence that it cites. */
public final class TermBoundariesTest extends Bench {
    public static void main(String[] args) {
        startOfVariables();
        startOfArray();
        wholeHasInstruction();
        wholeLastOp();
        wholePlaces();
        joinWithNowhere();
        joinOfTwo();
        haltEndsFlow();
        setToAnyInt();
        plusEdges();
        minusEdges();
        timesEdges();
        timesLaps();
        resultIntoItsOwn();
        divisionRounds();
        divisionParts();
        divisionOfLeast();
        divisionByNothing();
        arrayCells();
        lessOfOneVariable();
        notLessEdges();
        lessEdges();
        lessNotWrapped();
        lessFromOneState();
        lessToNext();
        arrivalAtNowhere();
        arrivalInside();
        arrivalBackAbove();
        arrivalBackBelow();
        arrivalForward();
        arrivalAtItself();
        laterTurnsOfRound();
        roundsUntilNothingChanges();
        lastStepOnce();
        lastStepAtOneTime();
        lastStepOfInstruction0();
        scanStartsAnew();
        longestLife();
        check.finish();
    }

    /** "VARIABLES are 0 .. 3, ints, all 0 at the start". */
    private static void startOfVariables() {
        RangeScan x = scanned(row(0));
        for (int variable = 0; variable < 4; variable++) {
            interval("at the start", x, 0, variable, 0, 0);
        }
    }

    /** "an array of eight ints, of which nothing is known at the start", nor after op 8. */
    private static void startOfArray() {
        RangeScan x = scanned(row(7, 1, 0), row(1, 2, 5), row(8, 2, 0), row(7, 3, 0), row(0));
        interval("a cell at the start", x, 1, 1, MIN, MAX);
        interval("a cell after op 8", x, 4, 3, MIN, MAX);
    }

    /** "A program is WHOLE if it has an instruction". */
    private static void wholeHasInstruction() {
        check.due("none: scan()", new RangeScan().scan(), -1);
        check.due("one: scan()", halts(1).scan(), 0);
        check.due("24: scan()", halts(24).scan(), 0);
        RangeScan x = halts(1);
        x.clear();
        check.due("none after clear: scan()", x.scan(), -1);
    }

    /** "its last op is 0 or 10". */
    private static void wholeLastOp() {
        for (int op = 0; op <= 11; op++) {
            int due = op == 0 || op == 10 ? 0 : -1;
            check.due("the only op " + op + ": scan()", program(row(op)).scan(), due);
            RangeScan full = halts(23);
            full.add(op, 0, 0, 0);
            check.due("the last of 24 is op " + op + ": scan()", full.scan(), due);
            check.holds("op " + op + " before the last: scan()",
                    program(row(op, 0, 1, 1), row(0)).scan() >= 0);
        }
    }

    /** "and c of ops 9 and 10 is an instruction of it". */
    private static void wholePlaces() {
        for (int op = 9; op <= 10; op++) {
            check.due("op " + op + " to the first", program(row(op, 0, 1, 0), row(0)).scan(), 0);
            check.due("op " + op + " to the last", program(row(op, 0, 1, 1), row(0)).scan(), 0);
            check.due("op " + op + " behind it", program(row(op, 0, 1, 2), row(0)).scan(), -1);
            check.due("op " + op + " far behind it", program(row(op, 0, 1, 23), row(0)).scan(), -1);
            RangeScan most = halts(22);
            most.add(op, 0, 0, 23);
            most.add(0, 0, 0, 0);
            check.due("op " + op + " to the last of 24", most.scan(), 0);
            check.due("op " + op + " nowhere, behind the end",
                    program(row(0), row(op, 0, 0, 3), row(0)).scan(), -1);
        }
        check.due("op 9 of one variable, behind the end", program(row(9, 2, 2, 2), row(0)).scan(), -1);
        check.due("the last op 10 to itself", program(row(10)).scan(), 0);
        check.due("the last op 10 behind itself", program(row(10, 0, 0, 1)).scan(), -1);
        check.due("c of other ops", program(row(1, 0, 0, 9), row(2, 0, 0, 9), row(7, 1, 0, 9),
                row(8, 0, 0, 9), row(0, 0, 0, 9)).scan(), 0);
        RangeScan x = program(row(10, 0, 0, 1));
        x.scan();
        x.add(0, 0, 0, 0);
        check.due("what was behind the end is added", x.scan(), 0);
        check.due("reached(1)", x.reached(1), 1);
    }

    /** "The JOIN of two states: the other one if one is nowhere". */
    private static void joinWithNowhere() {
        RangeScan x = scanned(row(1, 0, 5), row(10, 0, 0, 3), row(10, 0, 0, 3), row(0));
        check.due("nowhere: reached(2)", x.reached(2), 0);
        interval("only one way has a state", x, 3, 0, 5, 5);
        interval("only one way has a state", x, 3, 1, 0, 0);
    }

    /** "else for each variable the lesser low and the greater high". */
    private static void joinOfTwo() {
        RangeScan x = scanned(
                row(11, 0), row(9, 0, 1, 5), row(1, 2, MAX), row(1, 3, -1), row(10, 0, 0, 7),
                row(1, 2, MIN), row(1, 3, 1), row(0));
        interval("one way", x, 4, 2, MAX, MAX);
        interval("the other way", x, 7, 0, MIN, MAX);
        interval("both ways", x, 7, 1, 0, 0);
        interval("both ways", x, 7, 2, MIN, MAX);
        interval("both ways", x, 7, 3, -1, 1);
    }

    /** "0 nothing". */
    private static void haltEndsFlow() {
        RangeScan x = scanned(row(0, 0, 0, 1), row(0));
        check.due("behind a halt: reached(1)", x.reached(1), 0);
        RangeScan over = scanned(row(10, 0, 0, 2), row(0), row(0));
        check.due("behind op 10: reached(1)", over.reached(1), 0);
    }

    /** "for a the interval [b, b] (1), that of b (2), all ints (7, 11)". */
    private static void setToAnyInt() {
        int[] numbers = {MIN, MIN + 1, -1, 0, 3, 4, 24, MAX - 1, MAX};
        for (int number : numbers) {
            RangeScan x = scanned(row(1, 3, number), row(2, 0, 3), row(2, 0, 0), row(0));
            interval("op 1", x, 1, 3, number, number);
            interval("op 1, another variable", x, 1, 2, 0, 0);
            interval("op 2", x, 2, 0, number, number);
            interval("op 2, b stays", x, 2, 3, number, number);
            interval("op 2 of itself", x, 3, 0, number, number);
        }
        RangeScan x = afterIntervals(row(2, 2, 0), in(-1, 24), in(0, 0));
        interval("op 2 of an interval", x, NEXT, 2, -1, 24);
        RangeScan input = afterIntervals(row(11, 0), in(3, 4), in(5, 6));
        interval("op 11", input, NEXT, 0, MIN, MAX);
        interval("op 11, another variable", input, NEXT, 1, 5, 6);
    }

    private static void calculated(int op, int[] b, int[] c, long low, long high) {
        RangeScan x = afterIntervals(row(op, 2, 0, 1), b, c);
        String what = "op " + op + " of [" + b[0] + ", " + b[1] + "] and [" + c[0] + ", " + c[1] + "]";
        check.due(what + ": reached(" + NEXT + ")", x.reached(NEXT), 1);
        interval(what, x, NEXT, 2, low, high);
        interval(what + ", b stays", x, NEXT, 0, b[0], b[1]);
        interval(what + ", c stays", x, NEXT, 1, c[0], c[1]);
    }

    /** "do l and h need the same multiple of 2^32 taken off to be ints ..; else all ints": plus. */
    private static void plusEdges() {
        calculated(3, in(MAX - 2, MAX - 1), in(1, 1), MAX - 1, MAX);
        calculated(3, in(MAX - 1, MAX), in(1, 1), MIN, MAX);
        calculated(3, in(MAX, MAX), in(1, 2), MIN, MIN + 1);
        calculated(3, in(MAX, MAX), in(0, 1), MIN, MAX);
        calculated(3, in(MIN + 1, MIN + 2), in(-1, -1), MIN, MIN + 1);
        calculated(3, in(MIN, MIN + 1), in(-1, -1), MIN, MAX);
        calculated(3, in(MIN, MIN), in(-2, -1), MAX - 1, MAX);
        calculated(3, in(MIN, MIN), in(-1, 0), MIN, MAX);
        calculated(3, in(MAX, MAX), in(MAX, MAX), -2, -2);
        calculated(3, in(1, MAX), in(MAX, MAX), MIN, -2);
        calculated(3, in(0, MAX), in(MAX, MAX), MIN, MAX);
        calculated(3, in(MIN, MIN), in(MIN, MIN), 0, 0);
        calculated(3, in(MIN, -1), in(MIN, MIN), 0, MAX);
        calculated(3, in(MIN, 0), in(MIN, MIN), MIN, MAX);
        calculated(3, in(MIN, MAX), in(0, 0), MIN, MAX);
        calculated(3, in(MIN, MAX), in(1, 1), MIN, MAX);
        calculated(3, in(MIN, -1), in(0, MAX), MIN, MAX - 1);
    }

    /** The same sentence: minus. */
    private static void minusEdges() {
        calculated(4, in(1, 2), in(10, 20), -19, -8);
        calculated(4, in(MIN + 1, MIN + 2), in(1, 1), MIN, MIN + 1);
        calculated(4, in(MIN, MIN + 1), in(1, 1), MIN, MAX);
        calculated(4, in(MIN, MIN), in(1, 2), MAX - 1, MAX);
        calculated(4, in(MAX - 2, MAX - 1), in(-1, -1), MAX - 1, MAX);
        calculated(4, in(MAX - 1, MAX), in(-1, -1), MIN, MAX);
        calculated(4, in(MAX, MAX), in(-2, -1), MIN, MIN + 1);
        calculated(4, in(-1, -1), in(MIN, MIN), MAX, MAX);
        calculated(4, in(0, 0), in(MIN, MIN), MIN, MIN);
        calculated(4, in(-1, 0), in(MIN, MIN), MIN, MAX);
        calculated(4, in(0, MAX), in(MIN, MIN), MIN, -1);
        calculated(4, in(MIN, MIN), in(MAX, MAX), 1, 1);
        calculated(4, in(MAX, MAX), in(MIN, MIN), -1, -1);
        calculated(4, in(MAX, MAX), in(MIN, MAX), MIN, MAX);
        calculated(4, in(-1, -1), in(MIN, MAX), MIN, MAX);
        calculated(4, in(MIN, MAX), in(MIN, MAX), MIN, MAX);
    }

    /** "the least and the greatest exact result (not wrapped) of the four pairs of an end ..": times. */
    private static void timesEdges() {
        calculated(5, in(2, 3), in(5, 7), 10, 21);
        calculated(5, in(-3, -2), in(5, 7), -21, -10);
        calculated(5, in(2, 3), in(-7, -5), -21, -10);
        calculated(5, in(-3, -2), in(-7, -5), 10, 21);
        calculated(5, in(-3, 2), in(-5, 7), -21, 15);
        calculated(5, in(-2, 3), in(-7, 5), -21, 15);
        calculated(5, in(-1, 0), in(0, 1), -1, 0);
        calculated(5, in(MIN, MAX), in(0, 0), 0, 0);
        calculated(5, in(MIN, MAX), in(1, 1), MIN, MAX);
        calculated(5, in(MIN + 1, MAX), in(-1, -1), MIN + 1, MAX);
        calculated(5, in(MIN, MIN), in(-1, -1), MIN, MIN);
        calculated(5, in(MIN, MIN + 1), in(-1, -1), MIN, MAX);
        calculated(5, in(46340, 46340), in(46340, 46340), 2147395600, 2147395600);
        calculated(5, in(46341, 46341), in(46341, 46341), -2147479015, -2147479015);
        calculated(5, in(46340, 46341), in(46340, 46341), MIN, MAX);
    }

    /** The same multiple of 2^32, other than 0 and 1, and the ends of its ints. */
    private static void timesLaps() {
        calculated(5, in(65536, 65536), in(32768, 65536), MIN, 0);
        calculated(5, in(65536, 65536), in(32767, 65536), MIN, MAX);
        calculated(5, in(65536, 65536), in(65536, 98303), 0, 2147418112);
        calculated(5, in(65536, 65536), in(65536, 98304), MIN, MAX);
        calculated(5, in(65536, 65536), in(98304, 98304), MIN, MIN);
        calculated(5, in(65536, 65536), in(-98304, -32769), MIN, 2147418112);
        calculated(5, in(65536, 65536), in(-98304, -32768), MIN, MAX);
        calculated(5, in(65536, 65536), in(-98305, -32769), MIN, MAX);
        calculated(5, in(65536, 65536), in(-32768, -32768), MIN, MIN);
        calculated(5, in(65536, 65536), in(0, 65536), MIN, MAX);
        calculated(5, in(MAX, MAX), in(MAX, MAX), 1, 1);
        calculated(5, in(MIN, MIN), in(MIN, MIN), 0, 0);
        calculated(5, in(MIN, MIN), in(MAX, MAX), MIN, MIN);
        calculated(5, in(MIN, MIN), in(MAX - 1, MAX), MIN, 0);
        calculated(5, in(MIN, MIN), in(MAX - 2, MAX), MIN, MAX);
        calculated(5, in(MIN, MAX), in(MIN, MAX), MIN, MAX);
    }

    /** "of b's interval and .. c's": as they are before, also if b, c and a are one variable. */
    private static void resultIntoItsOwn() {
        RangeScan square = afterIntervals(row(5, 0, 0, 0), in(-2, 3), in(0, 0));
        interval("a variable times itself, into itself", square, NEXT, 0, -6, 9);
        RangeScan difference = afterIntervals(row(4, 1, 0, 0), in(-2, 3), in(0, 0));
        interval("a variable minus itself", difference, NEXT, 1, -5, 5);
        RangeScan intoB = afterIntervals(row(4, 0, 0, 1), in(10, 20), in(1, 2));
        interval("into b", intoB, NEXT, 0, 8, 19);
        RangeScan intoC = afterIntervals(row(4, 1, 0, 1), in(10, 20), in(1, 2));
        interval("into c", intoC, NEXT, 1, 8, 19);
        RangeScan quotient = afterIntervals(row(6, 0, 0, 0), in(-4, 8), in(0, 0));
        interval("a variable divided by itself, into itself", quotient, NEXT, 0, -8, 8);
    }

    /** "exact quotients, rounded towards 0". */
    private static void divisionRounds() {
        calculated(6, in(7, 7), in(2, 2), 3, 3);
        calculated(6, in(-7, -7), in(2, 2), -3, -3);
        calculated(6, in(7, 7), in(-2, -2), -3, -3);
        calculated(6, in(-7, -7), in(-2, -2), 3, 3);
        calculated(6, in(-1, 1), in(2, 2), 0, 0);
        calculated(6, in(-2, 2), in(2, 2), -1, 1);
        calculated(6, in(-8, 9), in(2, 4), -4, 4);
        calculated(6, in(MAX, MAX), in(MIN, MIN), 0, 0);
        calculated(6, in(MIN, MIN), in(MAX, MAX), -1, -1);
        calculated(6, in(MIN, MIN), in(MIN, MIN), 1, 1);
        calculated(6, in(MIN, MAX), in(2, 2), -1073741824, 1073741823);
        calculated(6, in(MIN, MAX), in(-2, -2), -1073741823, 1073741824);
    }

    /** "c's interval is taken without 0, in two parts .. over the parts that there are". */
    private static void divisionParts() {
        calculated(6, in(10, 20), in(2, 5), 2, 10);
        calculated(6, in(10, 20), in(1, 5), 2, 20);
        calculated(6, in(10, 20), in(0, 5), 2, 20);
        calculated(6, in(10, 20), in(-1, 5), -20, 20);
        calculated(6, in(10, 20), in(-5, -2), -10, -2);
        calculated(6, in(10, 20), in(-5, -1), -20, -2);
        calculated(6, in(10, 20), in(-5, 0), -20, -2);
        calculated(6, in(10, 20), in(-5, 1), -20, 20);
        calculated(6, in(10, 20), in(0, 1), 10, 20);
        calculated(6, in(10, 20), in(-1, 0), -20, -10);
        calculated(6, in(10, 20), in(-1, 1), -20, 20);
        calculated(6, in(0, 0), in(-1, 1), 0, 0);
        calculated(6, in(10, 20), in(MIN, MAX), -20, 20);
        calculated(6, in(10, 20), in(0, MAX), 0, 20);
        calculated(6, in(10, 20), in(MIN, 0), -20, 0);
        calculated(6, in(MIN + 1, MAX), in(MIN, MAX), MIN + 1, MAX);
        calculated(6, in(MIN, MAX), in(MIN, MAX), MIN, MAX);
    }

    /** "(the least int divided by -1 is 2^31 here)". */
    private static void divisionOfLeast() {
        calculated(6, in(MIN, MIN), in(-1, -1), MIN, MIN);
        calculated(6, in(MIN + 1, MIN + 1), in(-1, -1), MAX, MAX);
        calculated(6, in(MIN, MIN + 1), in(-1, -1), MIN, MAX);
        calculated(6, in(MIN, MIN), in(-2, -2), 1073741824, 1073741824);
        calculated(6, in(MIN, MIN), in(-2, -1), MIN, MAX);
        calculated(6, in(MIN, MIN), in(-1, 0), MIN, MIN);
        calculated(6, in(MIN, MIN), in(-1, 1), MIN, MAX);
        calculated(6, in(MIN, MIN), in(1, 1), MIN, MIN);
        calculated(6, in(MIN, -1), in(1, 2), MIN, 0);
        calculated(6, in(MIN, 0), in(-1, -1), MIN, MAX);
        calculated(6, in(MIN + 1, 0), in(-1, -1), 0, MAX);
    }

    /** "nothing flows if there is none". */
    private static void divisionByNothing() {
        RangeScan zero = afterIntervals(row(6, 2, 0, 1), in(1, 2), in(0, 0));
        check.due("by [0, 0]: reached(" + HERE + ")", zero.reached(HERE), 1);
        check.due("by [0, 0]: reached(" + NEXT + ")", zero.reached(NEXT), 0);
        RangeScan itself = scanned(row(6, 0, 0, 0), row(0));
        check.due("0 by itself: reached(1)", itself.reached(1), 0);
        check.due("0 by itself: rounds()", itself.rounds(), 1);
    }

    /** "for 7 and 8 nothing if the interval of b has none of 0 .. 7". */
    private static void arrayCells() {
        int[][] some = {
            in(0, 7), in(0, 0), in(7, 7), in(3, 4), in(-1, 0), in(7, 8), in(-1, 8), in(MIN, 0),
            in(7, MAX), in(MIN, MAX)
        };
        int[][] none = {in(-1, -1), in(8, 8), in(-2, -1), in(8, 9), in(MIN, -1), in(8, MAX)};
        for (int op = 7; op <= 8; op++) {
            for (int[] index : some) {
                RangeScan x = afterIntervals(row(op, 1, 0), index, in(5, 6));
                String what = "op " + op + " at [" + index[0] + ", " + index[1] + "]";
                check.due(what + ": reached(" + NEXT + ")", x.reached(NEXT), 1);
                interval(what + ", b stays", x, NEXT, 0, index[0], index[1]);
                interval(what, x, NEXT, 1, op == 7 ? MIN : 5, op == 7 ? MAX : 6);
            }
            for (int[] index : none) {
                RangeScan x = afterIntervals(row(op, 1, 0), index, in(5, 6));
                String what = "op " + op + " at [" + index[0] + ", " + index[1] + "]";
                check.due(what + ": reached(" + NEXT + ")", x.reached(NEXT), 0);
            }
        }
        RangeScan own = scanned(row(7, 0, 0), row(8, 1, 1), row(0));
        interval("op 7 into its own index", own, 1, 0, MIN, MAX);
        check.due("op 8 of its own index: reached(2)", own.reached(2), 1);
    }

    /** "S if a and b are one variable", and "Then to c: nothing if a and b are one variable". */
    private static void lessOfOneVariable() {
        RangeScan x = scanned(row(11, 0), row(9, 0, 0, 3), row(0), row(0));
        interval("to the next", x, 2, 0, MIN, MAX);
        check.due("to c: reached(3)", x.reached(3), 0);
        RangeScan back = scanned(row(11, 3), row(9, 3, 3, 0), row(0));
        interval("to c, which is 0", back, 0, 3, 0, 0);
        check.due("to c, which is 0: rounds()", back.rounds(), 2);
    }

    /** The two flows of "if variable 0 is less than variable 1 on at 12", from instruction 10. */
    private static RangeScan less(int[] a, int[] b) {
        return afterIntervals(row(9, 0, 1, NEXT + 1), a, b);
    }

    private static void flows(String what, RangeScan x, int p, int[] a, int[] b) {
        check.due(what + ": reached(" + p + ")", x.reached(p), 1);
        interval(what, x, p, 0, a[0], a[1]);
        interval(what, x, p, 1, b[0], b[1]);
    }

    private static void notLess(int[] a, int[] b, int[] wantA, int[] wantB) {
        String what = "[" + a[0] + ", " + a[1] + "] not less than [" + b[0] + ", " + b[1] + "]";
        flows(what, less(a, b), NEXT, wantA, wantB);
    }

    private static void neverNotLess(int[] a, int[] b) {
        String what = "[" + a[0] + ", " + a[1] + "] not less than [" + b[0] + ", " + b[1] + "]";
        check.due(what + ": reached(" + NEXT + ")", less(a, b).reached(NEXT), 0);
    }

    private static void isLess(int[] a, int[] b, int[] wantA, int[] wantB) {
        String what = "[" + a[0] + ", " + a[1] + "] less than [" + b[0] + ", " + b[1] + "]";
        flows(what, less(a, b), NEXT + 1, wantA, wantB);
    }

    private static void neverLess(int[] a, int[] b) {
        String what = "[" + a[0] + ", " + a[1] + "] less than [" + b[0] + ", " + b[1] + "]";
        check.due(what + ": reached(" + (NEXT + 1) + ")", less(a, b).reached(NEXT + 1), 0);
    }

    /** "a's low is the greater one .. b's high the lesser one"; "Nothing flows where ..". */
    private static void notLessEdges() {
        notLess(in(0, 10), in(3, 7), in(3, 10), in(3, 7));
        notLess(in(3, 7), in(0, 10), in(3, 7), in(0, 7));
        notLess(in(0, 5), in(3, 10), in(3, 5), in(3, 5));
        notLess(in(3, 10), in(0, 5), in(3, 10), in(0, 5));
        notLess(in(1, 5), in(5, 9), in(5, 5), in(5, 5));
        neverNotLess(in(1, 4), in(5, 9));
        notLess(in(5, 5), in(5, 5), in(5, 5), in(5, 5));
        neverNotLess(in(4, 4), in(5, 5));
        notLess(in(MIN, MAX), in(MIN, MAX), in(MIN, MAX), in(MIN, MAX));
        notLess(in(MIN, MIN), in(MIN, MAX), in(MIN, MIN), in(MIN, MIN));
        notLess(in(MIN, MAX), in(MAX, MAX), in(MAX, MAX), in(MAX, MAX));
        neverNotLess(in(MIN, MIN), in(MIN + 1, MAX));
        neverNotLess(in(MIN, MAX - 1), in(MAX, MAX));
    }

    /** "a's high is the lesser one of a's high and b's high - 1, and b's low the greater one ..". */
    private static void lessEdges() {
        isLess(in(0, 10), in(3, 7), in(0, 6), in(3, 7));
        isLess(in(3, 7), in(0, 10), in(3, 7), in(4, 10));
        isLess(in(1, 4), in(5, 9), in(1, 4), in(5, 9));
        isLess(in(1, 5), in(5, 9), in(1, 5), in(5, 9));
        isLess(in(1, 9), in(1, 9), in(1, 8), in(2, 9));
        isLess(in(4, 9), in(1, 5), in(4, 4), in(5, 5));
        neverLess(in(5, 9), in(1, 5));
        isLess(in(4, 4), in(5, 5), in(4, 4), in(5, 5));
        neverLess(in(5, 5), in(5, 5));
        neverLess(in(6, 6), in(5, 5));
    }

    /** "(not wrapped)": at the least and the greatest int. */
    private static void lessNotWrapped() {
        isLess(in(MIN, MAX), in(MIN, MAX), in(MIN, MAX - 1), in(MIN + 1, MAX));
        isLess(in(MIN, MAX), in(MIN, MIN + 1), in(MIN, MIN), in(MIN + 1, MIN + 1));
        neverLess(in(MIN, MAX), in(MIN, MIN));
        neverLess(in(MIN, MIN), in(MIN, MIN));
        isLess(in(MAX - 1, MAX), in(MIN, MAX), in(MAX - 1, MAX - 1), in(MAX, MAX));
        neverLess(in(MAX, MAX), in(MIN, MAX));
        neverLess(in(MAX, MAX), in(MAX, MAX));
        neverLess(in(MAX, MAX), in(MIN, MIN));
        isLess(in(MIN, MIN), in(MAX, MAX), in(MIN, MIN), in(MAX, MAX));
    }

    /** "All with the intervals in S.": neither the other flow nor the other end counts. */
    private static void lessFromOneState() {
        RangeScan x = less(in(0, 10), in(3, 7));
        flows("to the next", x, NEXT, in(3, 10), in(3, 7));
        flows("to c", x, NEXT + 1, in(0, 6), in(3, 7));
        RangeScan y = less(in(4, 6), in(0, 10));
        flows("to the next", y, NEXT, in(4, 6), in(0, 6));
        flows("to c", y, NEXT + 1, in(4, 6), in(5, 10));
        interval("another variable", y, NEXT, 2, 0, 0);
        interval("another variable", y, NEXT + 1, 2, 0, 0);
    }

    /** "first to p + 1 .. Then to c", where c is p + 1 too. */
    private static void lessToNext() {
        RangeScan x = afterIntervals(row(9, 0, 1, NEXT), in(0, 10), in(3, 7));
        flows("both to one", x, NEXT, in(0, 10), in(3, 7));
        RangeScan y = afterIntervals(row(9, 0, 1, NEXT), in(4, 6), in(0, 10));
        flows("both to one", y, NEXT, in(4, 6), in(0, 10));
        RangeScan z = afterIntervals(row(9, 0, 1, NEXT), in(1, 2), in(5, 6));
        flows("only the second", z, NEXT, in(1, 2), in(5, 6));
    }

    /** "is q nowhere, its state becomes T": also if q <= p. */
    private static void arrivalAtNowhere() {
        RangeScan x = scanned(row(10, 0, 0, 3), row(2), row(0), row(1, 0, 5), row(10, 0, 0, 1));
        interval("back to what was nowhere", x, 1, 0, 5, 5);
        interval("what flows on from there", x, 2, 0, 5, 5);
    }

    /** A loop over instruction 1, where variable 0 is 5 or, from the second time on, the number. */
    private static RangeScan loop(int number) {
        return scanned(row(1, 0, 5), row(2), row(1, 0, number), row(10, 0, 0, 1));
    }

    /** "is T's low less than q's .. is T's high greater than q's": equal ends change nothing. */
    private static void arrivalInside() {
        RangeScan x = loop(5);
        interval("the same came back", x, 1, 0, 5, 5);
        interval("the same came back", x, 2, 0, 5, 5);
        check.due("the same came back: rounds()", x.rounds(), 2);
    }

    /** "is T's high greater than q's, q's high becomes T's high, but the greatest int if q <= p". */
    private static void arrivalBackAbove() {
        RangeScan x = loop(6);
        interval("after the last step", x, 1, 0, 5, 6);
        interval("as the rounds left it, low as it was", x, 2, 0, 5, MAX);
        interval("another variable", x, 2, 1, 0, 0);
        check.due("above: rounds()", x.rounds(), 3);
        interval("by far", loop(MAX), 1, 0, 5, MAX);
        interval("by far", loop(MAX), 2, 0, 5, MAX);
    }

    /** "is T's low less than q's, q's low becomes T's low, but the least int if q <= p". */
    private static void arrivalBackBelow() {
        RangeScan x = loop(4);
        interval("after the last step", x, 1, 0, 4, 5);
        interval("as the rounds left it, high as it was", x, 2, 0, MIN, 5);
        interval("another variable", x, 2, 1, 0, 0);
        check.due("below: rounds()", x.rounds(), 3);
        interval("by far", loop(MIN), 1, 0, MIN, 5);
        interval("by far", loop(MIN), 2, 0, MIN, 5);
    }

    /** The same where q is p + 1, or further on: neither low nor high goes further than T's. */
    private static void arrivalForward() {
        RangeScan x = scanned(
                row(11, 0), row(1, 2, 5), row(9, 0, 1, 6), row(1, 2, 6), row(1, 3, -1),
                row(10, 0, 0, 6), row(2), row(0));
        interval("op 10 to the next, above", x, 7, 2, 5, 6);
        interval("op 10 to the next, below", x, 7, 3, -1, 0);
        RangeScan y = scanned(
                row(11, 0), row(1, 2, 5), row(9, 0, 1, 5), row(1, 2, 6), row(1, 3, -1), row(2), row(0));
        interval("on to the next, above", y, 6, 2, 5, 6);
        interval("on to the next, below", y, 6, 3, -1, 0);
        RangeScan z = scanned(
                row(11, 0), row(9, 0, 1, 6), row(1, 1, 5), row(9, 0, 1, 4), row(2), row(0), row(0));
        interval("op 9 to the next, below", z, 5, 0, 0, MAX);
        RangeScan further = new RangeScan();
        further.add(11, 0, 0, 0);
        further.add(9, 0, 1, 22);
        further.add(1, 2, 6, 0);
        further.add(10, 0, 0, 22);
        for (int p = 4; p < 22; p++) {
            further.add(0, 0, 0, 0);
        }
        further.add(2, 0, 0, 0);
        further.add(0, 0, 0, 0);
        further.scan();
        interval("op 10 further on", further, 23, 2, 0, 6);
    }

    /** "if q <= p", where q is p: what flows there lies within its state, so nothing changes. */
    private static void arrivalAtItself() {
        RangeScan x = scanned(row(1, 1, 5), row(9, 0, 1, 1), row(0));
        check.due("less, to itself: rounds()", x.rounds(), 2);
        interval("less, to itself", x, 1, 0, 0, 0);
        check.due("less, to itself: reached(2)", x.reached(2), 0);
        RangeScan y = scanned(row(10, 0, 0, 0));
        check.due("on at itself: rounds()", y.rounds(), 1);
        interval("on at itself", y, 0, 0, 0, 0);
        RangeScan z = scanned(row(11, 0), row(9, 0, 1, 1), row(0));
        check.due("input, to itself: rounds()", z.rounds(), 2);
        interval("input, to itself", z, 1, 0, MIN, MAX);
        interval("input, to itself", z, 2, 0, 0, MAX);
    }

    /** "What has arrived counts for later turns of the same round." */
    private static void laterTurnsOfRound() {
        RangeScan line = new RangeScan();
        for (int p = 0; p < 23; p++) {
            line.add(1, 3, p, 0);
        }
        line.add(0, 0, 0, 0);
        line.scan();
        check.due("a line of 24: rounds()", line.rounds(), 2);
        interval("a line of 24", line, 23, 3, 22, 22);
        RangeScan back = scanned(row(10, 0, 0, 2), row(0), row(10, 0, 0, 1));
        check.due("the turn is over: rounds()", back.rounds(), 2);
        RangeScan on = scanned(row(10, 0, 0, 3), row(11, 0), row(0), row(10, 0, 0, 1));
        check.due("the turn comes in the next round: rounds()", on.rounds(), 3);
    }

    /** "Rounds go on until one changes nothing.": a way from the last to the first, step by step. */
    private static void roundsUntilNothingChanges() {
        RangeScan x = new RangeScan();
        x.add(10, 0, 0, 23);
        x.add(0, 0, 0, 0);
        for (int p = 2; p < 24; p++) {
            x.add(10, 0, 0, p - 1);
        }
        check.due("step by step: scan()", x.scan(), 0);
        check.due("step by step: rounds()", x.rounds(), 23);
        for (int p = 0; p < 24; p++) {
            check.due("step by step: reached(" + p + ")", x.reached(p), 1);
        }
    }

    /** "Then, once, all states .. become the join of all that flows to them": one step, no more. */
    private static void lastStepOnce() {
        RangeScan x = scanned(
                row(1, 1, 8), row(1, 2, 1), row(9, 0, 1, 4), row(0),
                row(3, 0, 0, 2), row(2, 3, 0), row(10, 0, 0, 2));
        interval("head", x, 2, 0, 0, 8);
        interval("a step behind the head", x, 4, 0, 0, 7);
        interval("head, copy", x, 2, 3, 0, 8);
        interval("body, copy still as wide as the rounds left it", x, 4, 3, 0, MAX);
        interval("after, as wide as the rounds left it", x, 3, 0, 8, MAX);
    }

    /** "all states at the same time .. from the states so found": not from those that are new. */
    private static void lastStepAtOneTime() {
        RangeScan x = scanned(
                row(2, 1, 1), row(2, 1, 1), row(2, 1, 1), row(1, 1, 5), row(9, 0, 1, 0), row(0));
        interval("first", x, 0, 1, 0, 5);
        interval("second", x, 1, 1, 0, MAX);
        interval("third", x, 2, 1, 0, MAX);
    }

    /** "and for instruction 0 of [0, 0] for all variables too". */
    private static void lastStepOfInstruction0() {
        RangeScan alone = scanned(row(1, 0, 5), row(0));
        interval("nothing flows to 0", alone, 0, 0, 0, 0);
        RangeScan above = scanned(row(1, 0, 5), row(10, 0, 0, 0));
        interval("5 flows to 0", above, 0, 0, 0, 5);
        RangeScan below = scanned(row(1, 3, -5), row(10, 0, 0, 0));
        interval("-5 flows to 0", below, 0, 3, -5, 0);
        interval("-5 flows to 0, another variable", below, 0, 0, 0, 0);
        RangeScan second = scanned(row(1, 0, 5), row(2), row(1, 0, 7), row(10, 0, 0, 1));
        interval("only 0 gets it", second, 1, 0, 5, 7);
    }

    /** "At first all instructions are nowhere, but instruction 0 ..": whatever a scan found before. */
    private static void scanStartsAnew() {
        RangeScan x = scanned(row(11, 0), row(9, 0, 0, 0), row(10, 0, 0, 0));
        interval("the first program", x, 0, 0, MIN, MAX);
        check.due("the first program: reached(2)", x.reached(2), 1);
        x.clear();
        x.add(0, 0, 0, 0);
        x.add(10, 0, 0, 2);
        x.add(0, 0, 0, 0);
        x.scan();
        interval("the second program", x, 0, 0, 0, 0);
        check.due("the second program: reached(1)", x.reached(1), 0);
        check.due("the second program: reached(2)", x.reached(2), 0);
        check.due("the second program: rounds()", x.rounds(), 1);
        RangeScan twice = loop(6);
        twice.scan();
        check.same("the same program twice", Answers.of(twice), Answers.of(loop(6)));
    }

    /** "An object is used for at most 512 calls": the last of them is answered as the first. */
    private static void longestLife() {
        RangeScan x = new RangeScan();
        for (int p = 0; p < 23; p++) {
            x.add(7, 0, 0, 0);
        }
        x.add(10, 0, 0, 0);
        for (int call = 25; call <= 512; call++) {
            check.due("call " + call + ": scan()", x.scan(), 23);
        }
        RangeScan y = new RangeScan();
        for (int call = 1; call <= 512; call += 4) {
            y.add(11, 3, 0, 0);
            y.add(0, 0, 0, 0);
            check.due("call " + (call + 2) + ": scan()", y.scan(), 0);
            y.clear();
        }
    }
}
