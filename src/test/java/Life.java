/** The same calls on an object and on the oracle, from new to the last of the 512 at the most. */
final class Life {
    static final int MOST_CALLS = 512;

    enum Call {
        ADD, CLEAR, SIZE, CODE, SCAN, ROUNDS, REACHED, LOW, HIGH, ALARM
    }

    private final Check check;
    private final String name;
    private final RangeScan x = new RangeScan();
    private final Oracle due = new Oracle();
    private int calls = 0;

    Life(Check check, String name) {
        this.check = check;
        this.name = name;
    }

    int calls() {
        return calls;
    }

    /** What the program is like by the oracle, so that looking at it is no call on the object. */
    Oracle oracle() {
        return due;
    }

    long add(int op, int a, int b, int c) {
        String numbers = op + ", " + a + ", " + b + ", " + c;
        return compare(Call.ADD, numbers, x.add(op, a, b, c), due.add(op, a, b, c));
    }

    void clear() {
        x.clear();
        due.clear();
        compare(Call.CLEAR, "", 0, 0);
    }

    long scan() {
        return compare(Call.SCAN, "", x.scan(), due.scan());
    }

    /** Asks one question; those of fewer numbers leave the last ones alone. */
    long ask(Call call, int p, int number) {
        String both = p + ", " + number;
        return switch (call) {
            case SIZE -> compare(call, "", x.size(), due.size());
            case CODE -> compare(call, both, x.code(p, number), due.code(p, number));
            case ROUNDS -> compare(call, "", x.rounds(), due.rounds());
            case REACHED -> compare(call, "" + p, x.reached(p), due.reached(p));
            case LOW -> compare(call, both, x.low(p, number), due.low(p, number));
            case HIGH -> compare(call, both, x.high(p, number), due.high(p, number));
            case ALARM -> compare(call, "" + p, x.alarm(p), due.alarm(p));
            default -> throw new IllegalArgumentException(call + " is no question");
        };
    }

    /** Asks all that there is to ask, and of the places just outside: 366 calls at the most. */
    void askAll() {
        ask(Call.SIZE, 0, 0);
        ask(Call.ROUNDS, 0, 0);
        for (int p = -1; p <= due.size(); p++) {
            ask(Call.REACHED, p, 0);
            ask(Call.ALARM, p, 0);
            for (int number = 0; number < 4; number++) {
                ask(Call.CODE, p, number);
                ask(Call.LOW, p, number);
                ask(Call.HIGH, p, number);
            }
        }
    }

    private long compare(Call call, String numbers, long got, long want) {
        calls++;
        String text = name + ", call " + calls + ", " + call + "(" + numbers + ")";
        check.due(text, got, want);
        if (calls > MOST_CALLS) {
            check.holds(text + " is one call too many", false);
        }
        return want;
    }
}
