import java.util.Random;

/** Compares the answers with those of the oracle, over programs and over mixed runs of calls. */
public final class OracleTest {
    private static final int PROGRAMS = 60000;
    private static final int RUNS = 400;
    private static final int CALLS = 512;

    private static final Check check = new Check();

    public static void main(String[] args) {
        int mostRounds = 0;
        for (int seed = 0; seed < PROGRAMS; seed++) {
            mostRounds = Math.max(mostRounds, compareProgram(seed));
        }
        System.out.println("the most rounds of a scan: " + mostRounds);
        for (int seed = 0; seed < RUNS; seed++) {
            compareRun(seed);
        }
        check.finish();
    }

    private static int compareProgram(int seed) {
        int[][] rows = Programs.whole(new Random(seed));
        RangeScan x = new RangeScan();
        Oracle due = new Oracle();
        for (int[] row : rows) {
            x.add(row[0], row[1], row[2], row[3]);
            due.add(row[0], row[1], row[2], row[3]);
        }
        String text = Programs.text(rows);
        check.due(text + "scan()", x.scan(), due.scan());
        check.due(text + "rounds()", x.rounds(), due.rounds());
        for (int p = 0; p < rows.length; p++) {
            check.due(text + "reached(" + p + ")", x.reached(p), due.reached(p));
            check.due(text + "alarm(" + p + ")", x.alarm(p), due.alarm(p));
            for (int v = 0; v < 4; v++) {
                check.due(text + "low(" + p + ", " + v + ")", x.low(p, v), due.low(p, v));
                check.due(text + "high(" + p + ", " + v + ")", x.high(p, v), due.high(p, v));
            }
        }
        return x.rounds();
    }

    /** Mostly a number that is meant, at times one just outside or far outside. */
    private static int near(Random random, int bound) {
        return random.nextInt(12) == 0 ? Programs.number(random) : random.nextInt(bound + 1);
    }

    private static void compareRun(int seed) {
        Random random = new Random(seed);
        RangeScan x = new RangeScan();
        Oracle due = new Oracle();
        for (int call = 0; call < CALLS; call++) {
            String where = "run " + seed + ", call " + call + ": ";
            int kind = random.nextInt(40);
            if (kind == 0) {
                x.clear();
                due.clear();
            } else if (kind < 14) {
                compareAdd(where, random, x, due);
            } else if (kind < 20) {
                check.due(where + "scan()", x.scan(), due.scan());
            } else {
                compareQuestion(where, random, x, due);
            }
        }
    }

    private static void compareAdd(String where, Random random, RangeScan x, Oracle due) {
        int op = random.nextInt(4) == 0 ? 0 : near(random, 12);
        int a = near(random, 3);
        int b = op == 1 ? Programs.number(random) : near(random, 3);
        int c = op == 9 || op == 10 ? near(random, random.nextInt(6) == 0 ? 24 : due.size()) : near(random, 3);
        String call = "add(" + op + ", " + a + ", " + b + ", " + c + ")";
        check.due(where + call, x.add(op, a, b, c), due.add(op, a, b, c));
    }

    private static void compareQuestion(String where, Random random, RangeScan x, Oracle due) {
        int p = near(random, due.size());
        int n = near(random, 4);
        String numbers = "(" + p + ", " + n + ")";
        switch (random.nextInt(7)) {
            case 0 -> check.due(where + "size()", x.size(), due.size());
            case 1 -> check.due(where + "code" + numbers, x.code(p, n), due.code(p, n));
            case 2 -> check.due(where + "rounds()", x.rounds(), due.rounds());
            case 3 -> check.due(where + "reached" + numbers, x.reached(p), due.reached(p));
            case 4 -> check.due(where + "low" + numbers, x.low(p, n), due.low(p, n));
            case 5 -> check.due(where + "high" + numbers, x.high(p, n), due.high(p, n));
            default -> check.due(where + "alarm" + numbers, x.alarm(p), due.alarm(p));
        }
    }
}
