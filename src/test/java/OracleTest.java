import java.util.Random;

/** Compares the answers with those of the oracle, over many whole programs. */
public final class OracleTest {
    private static final int PROGRAMS = 60000;

    private static final Check check = new Check();

    public static void main(String[] args) {
        int mostRounds = 0;
        for (int seed = 0; seed < PROGRAMS; seed++) {
            mostRounds = Math.max(mostRounds, compareProgram(seed));
        }
        System.out.println("the most rounds of a scan: " + mostRounds);
        check.finish();
    }

    private static int compareProgram(int seed) {
        int[][] rows = Programs.whole(new Random(seed));
        Life life = new Life(check, Programs.text(rows));
        for (int[] row : rows) {
            life.add(row[0], row[1], row[2], row[3]);
        }
        check.holds("not whole: " + Programs.text(rows), life.scan() >= 0);
        life.askAll();
        return life.oracle().rounds();
    }
}
