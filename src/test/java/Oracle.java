import java.math.BigInteger;
import java.util.ArrayList;
import java.util.List;

/** The document's words once more, written as plainly as can be, with numbers without bounds. */
final class Oracle {
    private static final BigInteger LEAST = BigInteger.valueOf(Integer.MIN_VALUE);
    private static final BigInteger GREATEST = BigInteger.valueOf(Integer.MAX_VALUE);
    private static final BigInteger LAP = BigInteger.ONE.shiftLeft(32);
    private static final long NONE = 4294967296L;

    private record Interval(BigInteger low, BigInteger high) {
        static final Interval ALL = new Interval(LEAST, GREATEST);

        static Interval of(long number) {
            return new Interval(BigInteger.valueOf(number), BigInteger.valueOf(number));
        }

        boolean isNone() {
            return low.compareTo(high) > 0;
        }

        boolean has(long number) {
            BigInteger n = BigInteger.valueOf(number);
            return low.compareTo(n) <= 0 && n.compareTo(high) <= 0;
        }

        Interval join(Interval other) {
            return new Interval(low.min(other.low), high.max(other.high));
        }
    }

    private record Arrival(int place, Interval[] state) {
    }

    private final List<int[]> program = new ArrayList<>();
    private Interval[][] states = null;
    private int rounds = 0;

    int add(int op, int a, int b, int c) {
        if (op < 0 || op > 11) {
            return -1;
        }
        boolean wrongA = (a < 0 || a > 3) && op != 0 && op != 10;
        boolean wrongB = (b < 0 || b > 3) && List.of(2, 3, 4, 5, 6, 7, 8, 9).contains(op);
        boolean wrongC = (c < 0 || c > 3) && List.of(3, 4, 5, 6).contains(op);
        boolean wrongPlace = (c < 0 || c > 23) && List.of(9, 10).contains(op);
        if (wrongA || wrongB || wrongC || wrongPlace) {
            return -1;
        }
        if (program.size() == 24) {
            return -2;
        }
        program.add(new int[] {op, a, b, c});
        states = null;
        return program.size() - 1;
    }

    void clear() {
        program.clear();
        states = null;
    }

    int size() {
        return program.size();
    }

    int code(int p, int field) {
        return isPlace(p) && field >= 0 && field <= 3 ? program.get(p)[field] : -9;
    }

    int scan() {
        states = null;
        if (!isWhole()) {
            return -1;
        }
        Interval[][] found = new Interval[program.size()][];
        found[0] = zeros();
        rounds = 0;
        boolean changed = true;
        while (changed) {
            changed = round(found);
            rounds++;
        }
        states = lastStep(found);
        int alarms = 0;
        for (int p = 0; p < program.size(); p++) {
            alarms += alarm(p) == 0 ? 0 : 1;
        }
        return alarms;
    }

    int rounds() {
        return states == null ? 0 : rounds;
    }

    int reached(int p) {
        if (states == null || !isPlace(p)) {
            return -1;
        }
        return states[p] == null ? 0 : 1;
    }

    long low(int p, int variable) {
        boolean known = reached(p) == 1 && variable >= 0 && variable <= 3;
        return known ? states[p][variable].low.longValueExact() : NONE;
    }

    long high(int p, int variable) {
        boolean known = reached(p) == 1 && variable >= 0 && variable <= 3;
        return known ? states[p][variable].high.longValueExact() : NONE;
    }

    int alarm(int p) {
        if (reached(p) != 1) {
            return 0;
        }
        int[] row = program.get(p);
        if (row[0] == 6) {
            return states[p][row[3]].has(0) ? 1 : 0;
        }
        if (row[0] == 7 || row[0] == 8) {
            Interval index = states[p][row[2]];
            boolean within = index.low.signum() >= 0 && index.high.compareTo(BigInteger.valueOf(7)) <= 0;
            return within ? 0 : 2;
        }
        return 0;
    }

    private boolean isPlace(int p) {
        return p >= 0 && p < program.size();
    }

    boolean isWhole() {
        if (program.isEmpty()) {
            return false;
        }
        for (int[] row : program) {
            if ((row[0] == 9 || row[0] == 10) && !isPlace(row[3])) {
                return false;
            }
        }
        int last = program.get(program.size() - 1)[0];
        return last == 0 || last == 10;
    }

    private static Interval[] zeros() {
        return new Interval[] {Interval.of(0), Interval.of(0), Interval.of(0), Interval.of(0)};
    }

    private boolean round(Interval[][] found) {
        boolean changed = false;
        for (int p = 0; p < program.size(); p++) {
            if (found[p] == null) {
                continue;
            }
            for (Arrival arrival : flows(p, found[p].clone())) {
                changed |= arrive(found, arrival, p);
            }
        }
        return changed;
    }

    private static boolean arrive(Interval[][] found, Arrival arrival, int p) {
        int q = arrival.place;
        if (found[q] == null) {
            found[q] = arrival.state.clone();
            return true;
        }
        boolean changed = false;
        for (int v = 0; v < 4; v++) {
            Interval old = found[q][v];
            Interval t = arrival.state[v];
            BigInteger low = old.low;
            BigInteger high = old.high;
            if (t.low.compareTo(low) < 0) {
                low = q <= p ? LEAST : t.low;
                changed = true;
            }
            if (t.high.compareTo(high) > 0) {
                high = q <= p ? GREATEST : t.high;
                changed = true;
            }
            found[q][v] = new Interval(low, high);
        }
        return changed;
    }

    private Interval[][] lastStep(Interval[][] found) {
        Interval[][] joined = new Interval[program.size()][];
        joined[0] = zeros();
        for (int p = 0; p < program.size(); p++) {
            if (found[p] == null) {
                continue;
            }
            for (Arrival arrival : flows(p, found[p])) {
                joined[arrival.place] = join(joined[arrival.place], arrival.state);
            }
        }
        return joined;
    }

    private static Interval[] join(Interval[] one, Interval[] other) {
        if (one == null) {
            return other.clone();
        }
        Interval[] both = new Interval[4];
        for (int v = 0; v < 4; v++) {
            both[v] = one[v].join(other[v]);
        }
        return both;
    }

    private List<Arrival> flows(int p, Interval[] s) {
        int[] row = program.get(p);
        int a = row[1];
        int b = row[2];
        int c = row[3];
        List<Arrival> out = new ArrayList<>();
        switch (row[0]) {
            case 0 -> { }
            case 1 -> send(out, p + 1, with(s, a, Interval.of(b)));
            case 2 -> send(out, p + 1, with(s, a, s[b]));
            case 3, 4, 5 -> send(out, p + 1, with(s, a, wrapped(results(row[0], s[b], s[c]))));
            case 6 -> {
                List<BigInteger> results = quotients(s[b], s[c]);
                if (!results.isEmpty()) {
                    send(out, p + 1, with(s, a, wrapped(results)));
                }
            }
            case 7, 8 -> {
                boolean some = false;
                for (int cell = 0; cell <= 7; cell++) {
                    some |= s[b].has(cell);
                }
                if (some) {
                    send(out, p + 1, row[0] == 7 ? with(s, a, Interval.ALL) : s.clone());
                }
            }
            case 9 -> compare(out, p, s);
            case 10 -> send(out, c, s.clone());
            case 11 -> send(out, p + 1, with(s, a, Interval.ALL));
            default -> throw new IllegalStateException("op " + row[0]);
        }
        return out;
    }

    private void compare(List<Arrival> out, int p, Interval[] s) {
        int a = program.get(p)[1];
        int b = program.get(p)[2];
        if (a == b) {
            send(out, p + 1, s.clone());
            return;
        }
        Interval notLessA = new Interval(s[a].low.max(s[b].low), s[a].high);
        Interval notLessB = new Interval(s[b].low, s[a].high.min(s[b].high));
        send(out, p + 1, with(with(s, a, notLessA), b, notLessB));
        Interval lessA = new Interval(s[a].low, s[a].high.min(s[b].high.subtract(BigInteger.ONE)));
        Interval lessB = new Interval(s[b].low.max(s[a].low.add(BigInteger.ONE)), s[b].high);
        send(out, program.get(p)[3], with(with(s, a, lessA), b, lessB));
    }

    private static Interval[] with(Interval[] s, int variable, Interval interval) {
        Interval[] changed = s.clone();
        changed[variable] = interval;
        return changed;
    }

    private static void send(List<Arrival> out, int place, Interval[] state) {
        for (Interval interval : state) {
            if (interval.isNone()) {
                return;
            }
        }
        out.add(new Arrival(place, state));
    }

    private static List<BigInteger> results(int op, Interval b, Interval c) {
        List<BigInteger> all = new ArrayList<>();
        for (BigInteger x : List.of(b.low, b.high)) {
            for (BigInteger y : List.of(c.low, c.high)) {
                all.add(switch (op) {
                    case 3 -> x.add(y);
                    case 4 -> x.subtract(y);
                    case 5 -> x.multiply(y);
                    default -> x.divide(y);
                });
            }
        }
        return all;
    }

    private static List<BigInteger> quotients(Interval b, Interval c) {
        List<BigInteger> all = new ArrayList<>();
        Interval negative = new Interval(c.low, c.high.min(BigInteger.ONE.negate()));
        Interval positive = new Interval(c.low.max(BigInteger.ONE), c.high);
        for (Interval part : List.of(negative, positive)) {
            if (!part.isNone()) {
                all.addAll(results(6, b, part));
            }
        }
        return all;
    }

    private static Interval wrapped(List<BigInteger> results) {
        BigInteger l = results.stream().min(BigInteger::compareTo).orElseThrow();
        BigInteger h = results.stream().max(BigInteger::compareTo).orElseThrow();
        BigInteger multiple = l.subtract(LEAST).subtract(l.subtract(LEAST).mod(LAP));
        BigInteger high = h.subtract(multiple);
        return high.compareTo(GREATEST) > 0 ? Interval.ALL : new Interval(l.subtract(multiple), high);
    }
}
