/** Each promise on ordinary inputs; the boundaries have tests of their own. */
public final class PromisesTest extends Bench {
    public static void main(String[] args) {
        addAndClear();
        sizeAndCode();
        straightLine();
        countingUp();
        countingDown();
        withoutEnd();
        twoWays();
        loopInLoop();
        threeAlarms();
        safeDivision();
        scanAgainAfterMore();
        check.finish();
    }

    private static RangeScan upToEight() {
        return program(
                row(1, 1, 8), row(1, 2, 1), row(9, 0, 1, 4), row(0),
                row(8, 3, 0), row(3, 0, 0, 2), row(10, 0, 0, 2));
    }

    private static void addAndClear() {
        RangeScan x = new RangeScan();
        check.due("first add", x.add(11, 2, 0, 0), 0);
        check.due("second add", x.add(5, 1, 2, 2), 1);
        check.due("third add", x.add(0, 0, 0, 0), 2);
        x.clear();
        check.due("first add after clear", x.add(1, 3, 12, 0), 0);
        check.due("code(0, 2) after clear", x.code(0, 2), 12);
    }

    private static void sizeAndCode() {
        RangeScan x = program(row(11, 2), row(5, 1, 2, 3), row(10, 7, 8, 0));
        check.due("size()", x.size(), 3);
        check.due("code(1, 0)", x.code(1, 0), 5);
        check.due("code(1, 1)", x.code(1, 1), 1);
        check.due("code(1, 2)", x.code(1, 2), 2);
        check.due("code(1, 3)", x.code(1, 3), 3);
        check.due("code(2, 2)", x.code(2, 2), 8);
    }

    private static void straightLine() {
        RangeScan x = program(
                row(1, 0, 17), row(1, 1, 5), row(3, 2, 0, 1), row(4, 2, 0, 1), row(5, 2, 0, 1),
                row(6, 2, 0, 1), row(2, 3, 2), row(11, 0), row(0));
        check.due("a line: scan()", x.scan(), 0);
        check.due("a line: rounds()", x.rounds(), 2);
        check.due("a line: reached(8)", x.reached(8), 1);
        interval("plus", x, 3, 2, 22, 22);
        interval("minus", x, 4, 2, 12, 12);
        interval("times", x, 5, 2, 85, 85);
        interval("divided", x, 6, 2, 3, 3);
        interval("copied", x, 7, 3, 3, 3);
        interval("input", x, 8, 0, MIN, MAX);
        interval("others stay", x, 8, 1, 5, 5);
    }

    private static void countingUp() {
        RangeScan x = upToEight();
        check.due("counting up: scan()", x.scan(), 0);
        check.due("counting up: rounds()", x.rounds(), 3);
        interval("counting up, head", x, 2, 0, 0, 8);
        interval("counting up, inside", x, 4, 0, 0, 7);
        interval("counting up, after", x, 3, 0, 8, MAX);
        check.due("counting up: alarm(4)", x.alarm(4), 0);
    }

    private static void countingDown() {
        RangeScan x = program(
                row(1, 0, 7), row(1, 2, 1), row(9, 0, 3, 6), row(8, 1, 0),
                row(4, 0, 0, 2), row(10, 0, 0, 2), row(0));
        check.due("counting down: scan()", x.scan(), 0);
        interval("counting down, head", x, 2, 0, -1, 7);
        interval("counting down, inside", x, 3, 0, 0, 7);
        interval("counting down, after", x, 6, 0, MIN, -1);
    }

    private static void withoutEnd() {
        RangeScan x = program(row(1, 1, 1), row(3, 0, 0, 1), row(10, 0, 0, 1));
        check.due("without an end: scan()", x.scan(), 0);
        interval("without an end", x, 1, 0, MIN, MAX);
        interval("without an end, another variable", x, 1, 1, 1, 1);
    }

    private static void twoWays() {
        RangeScan x = scanned(
                row(11, 0), row(9, 0, 1, 4), row(1, 2, 3), row(10, 0, 0, 5), row(1, 2, -4), row(0));
        interval("join of two ways", x, 5, 2, -4, 3);
        interval("join of two ways", x, 5, 0, MIN, MAX);
        interval("one way", x, 3, 2, 3, 3);
        interval("the other way", x, 4, 0, MIN, -1);
        check.due("join of two ways: rounds()", x.rounds(), 2);
    }

    /** Variable 0 counts outside, variable 1 inside, both up to 3. */
    private static void loopInLoop() {
        RangeScan x = program(
                row(1, 2, 3), row(1, 3, 1), row(9, 0, 2, 4), row(0), row(1, 1, 0), row(9, 1, 2, 8),
                row(3, 0, 0, 3), row(10, 0, 0, 2), row(8, 0, 1), row(3, 1, 1, 3), row(10, 0, 0, 5));
        check.due("a loop in a loop: scan()", x.scan(), 0);
        interval("outer head", x, 2, 0, 0, 3);
        interval("inner body", x, 8, 0, 0, 2);
        interval("inner body", x, 8, 1, 0, 2);
        interval("inner head", x, 5, 1, 0, 3);
    }

    private static void threeAlarms() {
        RangeScan x = program(
                row(11, 0), row(6, 1, 0, 0), row(7, 1, 0), row(8, 1, 0), row(3, 1, 0, 0),
                row(9, 0, 1, 0), row(0));
        check.due("three alarms: scan()", x.scan(), 3);
        int[] want = {0, 1, 2, 2, 0, 0, 0};
        for (int p = 0; p < want.length; p++) {
            check.due("three alarms: alarm(" + p + ")", x.alarm(p), want[p]);
        }
    }

    /** The test before the division keeps 0 out of the interval. */
    private static void safeDivision() {
        RangeScan x = program(
                row(11, 0), row(1, 1, 100), row(9, 2, 0, 4), row(0), row(6, 3, 1, 0), row(7, 3, 2),
                row(0));
        check.due("a safe division: scan()", x.scan(), 0);
        interval("divisor", x, 4, 0, 1, MAX);
        interval("quotient", x, 5, 3, 0, 100);
    }

    private static void scanAgainAfterMore() {
        RangeScan x = program(row(11, 0), row(10, 0, 0, 0));
        check.due("scan()", x.scan(), 0);
        interval("back to the start", x, 0, 0, MIN, MAX);
        x.add(6, 1, 0, 0);
        x.add(0, 0, 0, 0);
        check.due("scan() after two more", x.scan(), 0);
        check.due("reached(2) behind op 10", x.reached(2), 0);
        check.due("reached(1)", x.reached(1), 1);
    }
}
