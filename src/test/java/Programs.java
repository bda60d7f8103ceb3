import java.util.Random;

/** Programs that are whole, made from a seed, so that each run of a test sees the same ones. */
final class Programs {
    private static final int[] NUMBERS = {
        0, 0, 1, 1, -1, 2, 3, -3, 5, 7, 8, 9, 10, 100, -100, 46341, 65536, -65536,
        Integer.MAX_VALUE, Integer.MAX_VALUE - 1, Integer.MIN_VALUE, Integer.MIN_VALUE + 1
    };

    private Programs() {
    }

    static int number(Random random) {
        return random.nextInt(8) == 0 ? random.nextInt() : NUMBERS[random.nextInt(NUMBERS.length)];
    }

    static int[][] whole(Random random) {
        int size = 1 + random.nextInt(24);
        int variables = 2 + random.nextInt(3);
        int[][] rows = new int[size][];
        for (int p = 0; p < size; p++) {
            rows[p] = row(random, size, variables);
        }
        rows[size - 1][0] = random.nextInt(2) == 0 ? 0 : 10;
        rows[size - 1][3] = random.nextInt(size);
        return rows;
    }

    private static int[] row(Random random, int size, int variables) {
        int[] ops = {0, 1, 1, 1, 2, 3, 3, 4, 4, 5, 6, 6, 7, 8, 9, 9, 9, 9, 10, 11};
        int op = ops[random.nextInt(random.nextInt(3) == 0 ? ops.length : ops.length - 1)];
        if (op == 0 && random.nextInt(2) == 0) {
            op = 9;
        }
        int b = op == 1 ? number(random) : random.nextInt(variables);
        int c = op == 9 || op == 10 ? random.nextInt(size) : random.nextInt(variables);
        return new int[] {op, random.nextInt(variables), b, c};
    }

    static String text(int[][] rows) {
        StringBuilder out = new StringBuilder();
        for (int[] row : rows) {
            out.append('(').append(row[0]).append(' ').append(row[1]).append(' ').append(row[2])
                    .append(' ').append(row[3]).append(") ");
        }
        return out.toString();
    }
}
