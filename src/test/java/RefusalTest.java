import java.util.ArrayList;
import java.util.List;

/** "A call that is refused changes nothing. Questions change nothing.": in every kind of state. */
public final class RefusalTest extends Bench {
    private enum Start {
        NEW, CLEARED, NOT_WHOLE, SCAN_REFUSED, WHOLE, SCANNED, FULL, FULL_NOT_WHOLE, FULL_SCANNED;

        boolean isFull() {
            return this == FULL || this == FULL_NOT_WHOLE || this == FULL_SCANNED;
        }

        boolean isWhole() {
            return this == WHOLE || this == SCANNED || this == FULL || this == FULL_SCANNED;
        }
    }

    public static void main(String[] args) {
        someRowsHaveAll();
        for (Start start : Start.values()) {
            for (int[] row : wrongRows()) {
                refusedAdd(start, row, -1);
            }
            for (int op = 0; op <= 11 && start.isFull(); op++) {
                refusedAdd(start, row(op), -2);
            }
            if (!start.isWhole()) {
                refusedScan(start);
            }
            askAll(start);
        }
        manyRefusals();
        check.finish();
    }

    private static RangeScan made(Start start) {
        switch (start) {
            case NEW:
                return new RangeScan();
            case CLEARED:
                RangeScan cleared = scanned(someRows());
                cleared.clear();
                return cleared;
            case NOT_WHOLE:
                return program(row(11, 1), row(6, 2, 0, 1), row(10, 0, 0, 3));
            case SCAN_REFUSED:
                return scanned(row(11, 1), row(6, 2, 0, 1), row(9, 0, 1, 0));
            case WHOLE:
                return program(someRows());
            case SCANNED:
                return scanned(someRows());
            default:
                return full(start);
        }
    }

    private static RangeScan full(Start start) {
        RangeScan x = program(someRows());
        for (int p = someRows().length; p < 23; p++) {
            x.add(1, 0, p, 0);
        }
        x.add(start == Start.FULL_NOT_WHOLE ? 11 : 0, 0, 0, 0);
        if (start == Start.FULL_SCANNED) {
            x.scan();
        }
        return x;
    }

    /** Has a loop, alarms of both kinds, and an instruction that is nowhere. */
    private static int[][] someRows() {
        return new int[][] {
            row(1, 1, 8), row(9, 0, 1, 4), row(6, 3, 1, 2), row(0, 5, 6, 7), row(8, 3, 0),
            row(11, 2), row(7, 3, 2), row(3, 0, 0, 1), row(10, 0, 0, 1), row(0)
        };
    }

    private static void someRowsHaveAll() {
        RangeScan x = program(someRows());
        check.due("alarms", x.scan(), 2);
        check.due("rounds", x.rounds(), 3);
        check.due("a division's alarm", x.alarm(2), 1);
        check.due("an array's alarm", x.alarm(6), 2);
        check.due("nowhere", x.reached(9), 0);
    }

    /** Each number that must be right, just outside on each side, and several at once. */
    private static List<int[]> wrongRows() {
        List<int[]> rows = new ArrayList<>(List.of(
                row(-1), row(12), row(MIN), row(MAX), row(12, 4, 4, 24), row(3, 4, 4, 4),
                row(6, 0, -1, 4), row(9, -1, 4, 24), row(9, 0, 4, 23), row(9, 4, 0, 23)));
        int[] justOutside = {-1, 4};
        for (int number : justOutside) {
            for (int op = 1; op <= 11; op++) {
                if (op != 10) {
                    rows.add(row(op, number, 0, 0));
                }
            }
            for (int op = 2; op <= 9; op++) {
                rows.add(row(op, 0, number, 0));
            }
            for (int op = 3; op <= 6; op++) {
                rows.add(row(op, 0, 0, number));
            }
        }
        for (int op = 9; op <= 10; op++) {
            rows.add(row(op, 0, 0, -1));
            rows.add(row(op, 0, 0, 24));
        }
        return rows;
    }

    private static void refusedAdd(Start start, int[] row, int due) {
        RangeScan x = made(start);
        RangeScan later = made(start);
        check.due(start + ": " + text(row), add(x, row), due);
        check.due(start + ": " + text(row), add(later, row), due);
        same(start + ", " + text(row), start, x, later);
    }

    /** The document says that it is not scanned then, and it was not before. */
    private static void refusedScan(Start start) {
        RangeScan x = made(start);
        RangeScan later = made(start);
        check.due(start + ": scan()", x.scan(), -1);
        check.due(start + ": scan()", later.scan(), -1);
        same(start + ", scan()", start, x, later);
    }

    /** Compares with objects on which nothing was refused: at once, and after more calls. */
    private static void same(String what, Start start, RangeScan x, RangeScan later) {
        check.same(what, Answers.of(x), Answers.of(made(start)));
        check.same(what + ", calls after it", goOn(later), goOn(made(start)));
    }

    private static String goOn(RangeScan x) {
        String added = "add answers " + x.add(1, 3, -7, 0) + " and " + x.add(10, 0, 0, 0);
        return added + ", scan answers " + x.scan() + "\n" + Answers.of(x);
    }

    private static void askAll(Start start) {
        RangeScan x = made(start);
        RangeScan later = made(start);
        ask(x);
        ask(later);
        same(start + ", questions", start, x, later);
    }

    /** 88 calls. */
    private static void ask(RangeScan x) {
        int size = x.size();
        int[] places = {-1, 0, size - 1, size, MAX};
        int[] numbers = {MIN, -1, 0, 3, 4};
        x.rounds();
        for (int p : places) {
            x.reached(p);
            x.alarm(p);
            for (int number : numbers) {
                x.code(p, number);
                x.low(p, number);
                x.high(p, number);
            }
        }
    }

    /** As many as the object's calls allow, so that nothing fills up. */
    private static void manyRefusals() {
        RangeScan x = made(Start.SCANNED);
        for (int call = 0; call < 150; call++) {
            check.due("refusal " + call, x.add(12 + call, 0, 0, 0), -1);
        }
        check.same("150 refusals", Answers.of(x), Answers.of(made(Start.SCANNED)));
        RangeScan full = made(Start.FULL_SCANNED);
        for (int call = 0; call < 100; call++) {
            check.due("refusal " + call, full.add(1, 0, call, 0), -2);
        }
        check.same("100 refusals with 24", Answers.of(full), Answers.of(made(Start.FULL_SCANNED)));
    }
}
