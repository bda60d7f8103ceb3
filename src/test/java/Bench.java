/** What the tests share: programs put together in few words, and looks at their intervals. */
abstract class Bench {
    static final int MIN = Integer.MIN_VALUE;
    static final int MAX = Integer.MAX_VALUE;
    static final long NONE = 4294967296L;

    /** Where afterIntervals puts the instruction that it is given. */
    static final int HERE = 10;
    static final int NEXT = HERE + 1;
    private static final int END = 23;

    static final Check check = new Check();

    /** An instruction; the numbers that are not given are 0. */
    static int[] row(int op, int... numbers) {
        int[] whole = new int[4];
        whole[0] = op;
        System.arraycopy(numbers, 0, whole, 1, numbers.length);
        return whole;
    }

    static int[] in(int low, int high) {
        return new int[] {low, high};
    }

    static int add(RangeScan x, int[] row) {
        return x.add(row[0], row[1], row[2], row[3]);
    }

    static String text(int[] row) {
        return "add(" + row[0] + ", " + row[1] + ", " + row[2] + ", " + row[3] + ")";
    }

    static RangeScan program(int[]... rows) {
        RangeScan x = new RangeScan();
        for (int[] row : rows) {
            add(x, row);
        }
        return x;
    }

    static RangeScan scanned(int[]... rows) {
        RangeScan x = program(rows);
        x.scan();
        return x;
    }

    static void fillWithHalts(RangeScan x) {
        for (int p = x.size(); p < 24; p++) {
            x.add(0, 0, 0, 0);
        }
    }

    static RangeScan halts(int number) {
        RangeScan x = new RangeScan();
        for (int p = 0; p < number; p++) {
            x.add(0, 0, 0, 0);
        }
        return x;
    }

    /** Five instructions, after which the variable has the interval; they spend variable 3. */
    private static void addInterval(RangeScan x, int variable, int[] bounds) {
        x.add(11, variable, 0, 0);
        x.add(1, 3, bounds[1], 0);
        x.add(9, 3, variable, END);
        x.add(1, 3, bounds[0], 0);
        x.add(9, variable, 3, END);
    }

    /** Instruction HERE is the given one, with these intervals of variables 0 and 1 before it. */
    static RangeScan afterIntervals(int[] row, int[] of0, int[] of1) {
        RangeScan x = new RangeScan();
        addInterval(x, 0, of0);
        addInterval(x, 1, of1);
        check.due(text(row), add(x, row), HERE);
        fillWithHalts(x);
        check.holds("scan() of a whole program", x.scan() >= 0);
        interval("before " + text(row), x, HERE, 0, of0[0], of0[1]);
        interval("before " + text(row), x, HERE, 1, of1[0], of1[1]);
        return x;
    }

    static void interval(String what, RangeScan x, int p, int variable, long low, long high) {
        check.due(what + ": low(" + p + ", " + variable + ")", x.low(p, variable), low);
        check.due(what + ": high(" + p + ", " + variable + ")", x.high(p, variable), high);
    }

    /** Looks at all that tells whether it is scanned. */
    static void notScanned(String what, RangeScan x) {
        check.due(what + ": rounds()", x.rounds(), 0);
        for (int p = 0; p < 3; p++) {
            check.due(what + ": reached(" + p + ")", x.reached(p), -1);
            check.due(what + ": alarm(" + p + ")", x.alarm(p), 0);
            interval(what, x, p, 0, NONE, NONE);
        }
    }
}
