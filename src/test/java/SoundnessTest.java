import java.util.Random;

/** Runs programs on inputs and looks whether every value is in its interval. */
public final class SoundnessTest {
    private static final int PROGRAMS = 20000;
    private static final int RUNS_EACH = 4;
    private static final int STEPS = 150;

    private static final Check check = new Check();

    /** What the scan answers of one instruction, asked once: an object has no more than 512 calls. */
    private record Told(boolean reached, long[] lows, long[] highs, boolean alarm) {
        static Told of(RangeScan x, int p) {
            long[] lows = new long[4];
            long[] highs = new long[4];
            for (int v = 0; v < 4; v++) {
                lows[v] = x.low(p, v);
                highs[v] = x.high(p, v);
            }
            return new Told(x.reached(p) == 1, lows, highs, x.alarm(p) != 0);
        }

        boolean holds(int[] variables) {
            boolean inside = reached;
            for (int v = 0; v < 4; v++) {
                inside &= lows[v] <= variables[v] && variables[v] <= highs[v];
            }
            return inside;
        }
    }

    public static void main(String[] args) {
        for (int seed = 0; seed < PROGRAMS; seed++) {
            Random random = new Random(1000000L + seed);
            int[][] rows = Programs.whole(random);
            Told[] told = scan(rows);
            for (int run = 0; run < RUNS_EACH; run++) {
                runOnce(rows, told, random);
            }
        }
        check.finish();
    }

    private static Told[] scan(int[][] rows) {
        RangeScan x = new RangeScan();
        for (int[] row : rows) {
            x.add(row[0], row[1], row[2], row[3]);
        }
        check.holds("not scanned: " + Programs.text(rows), x.scan() >= 0);
        Told[] told = new Told[rows.length];
        for (int p = 0; p < rows.length; p++) {
            told[p] = Told.of(x, p);
        }
        return told;
    }

    private static void runOnce(int[][] rows, Told[] told, Random random) {
        int[] variables = new int[4];
        int[] cells = new int[8];
        for (int cell = 0; cell < 8; cell++) {
            cells[cell] = Programs.number(random);
        }
        int p = 0;
        for (int step = 0; step < STEPS && p >= 0; step++) {
            String where = "at " + p + " of " + Programs.text(rows);
            check.holds("a value is outside " + where, told[p].holds(variables));
            check.holds("no alarm " + where, !isBrokenOff(rows[p], variables) || told[p].alarm);
            p = next(rows[p], p, variables, cells, random);
        }
    }

    private static boolean isBrokenOff(int[] row, int[] variables) {
        if (row[0] == 6) {
            return variables[row[3]] == 0;
        }
        boolean usesArray = row[0] == 7 || row[0] == 8;
        return usesArray && (variables[row[2]] < 0 || variables[row[2]] > 7);
    }

    /** The next instruction's number, or -1 if the run has ended. */
    private static int next(int[] row, int p, int[] v, int[] cells, Random random) {
        int a = row[1];
        int b = row[2];
        int c = row[3];
        if (row[0] == 0 || isBrokenOff(row, v)) {
            return -1;
        }
        switch (row[0]) {
            case 1 -> v[a] = b;
            case 2 -> v[a] = v[b];
            case 3 -> v[a] = v[b] + v[c];
            case 4 -> v[a] = v[b] - v[c];
            case 5 -> v[a] = v[b] * v[c];
            case 6 -> v[a] = v[b] / v[c];
            case 7 -> v[a] = cells[v[b]];
            case 8 -> cells[v[b]] = v[a];
            case 11 -> v[a] = Programs.number(random);
            default -> { }
        }
        boolean goesAway = row[0] == 10 || row[0] == 9 && v[a] < v[b];
        return goesAway ? c : p + 1;
    }
}
