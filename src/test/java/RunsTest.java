import java.util.Random;
import java.util.Set;
import java.util.TreeSet;

/** Runs of up to 512 calls on one object: add, clear, scan and the questions in many orders. */
public final class RunsTest {
    private static final int LIVES = 3000;
    private static final int SHORT_RUN = 5;
    private static final Life.Call[] QUESTIONS = {
        Life.Call.SIZE, Life.Call.CODE, Life.Call.ROUNDS, Life.Call.REACHED, Life.Call.LOW,
        Life.Call.HIGH, Life.Call.ALARM
    };

    /** How often a life adds the row that its plan has next, adds any row, clears, scans, asks. */
    private enum Habit {
        BUILDS(24, 4, 1, 6, 40), ASKS(12, 2, 1, 4, 60), CLEARS(20, 4, 6, 10, 20),
        FILLS(30, 20, 0, 4, 20), SCANS(12, 2, 1, 20, 20), IS_WILD(2, 24, 2, 6, 20);

        final int planned;
        final int any;
        final int clear;
        final int scan;
        final int all;

        Habit(int planned, int any, int clear, int scan, int questions) {
            this.planned = planned;
            this.any = planned + any;
            this.clear = this.any + clear;
            this.scan = this.clear + scan;
            this.all = this.scan + questions;
        }
    }

    /** In each of these each call must be seen. */
    private enum State {
        EMPTY, NOT_WHOLE, WHOLE, SCANNED, FULL_NOT_WHOLE, FULL_WHOLE, FULL_SCANNED;

        static State of(Oracle oracle) {
            boolean full = oracle.size() == 24;
            if (oracle.size() == 0) {
                return EMPTY;
            }
            if (oracle.rounds() > 0) {
                return full ? FULL_SCANNED : SCANNED;
            }
            if (oracle.isWhole()) {
                return full ? FULL_WHOLE : WHOLE;
            }
            return full ? FULL_NOT_WHOLE : NOT_WHOLE;
        }
    }

    /** Every run of SHORT_RUN of these is made. */
    private enum ShortCall {
        CLEAR, HALT, INPUT, DIVIDE, IF_LESS, BACK, WRONG, SCAN, ASK;

        void on(Life life) {
            switch (this) {
                case CLEAR -> life.clear();
                case HALT -> life.add(0, 0, 0, 0);
                case INPUT -> life.add(11, 0, 0, 0);
                case DIVIDE -> life.add(6, 1, 0, 0);
                case IF_LESS -> life.add(9, 1, 0, 2);
                case BACK -> life.add(10, 0, 0, 1);
                case WRONG -> life.add(12, 0, 0, 0);
                case SCAN -> life.scan();
                default -> life.askAll();
            }
        }
    }

    private static final Check check = new Check();
    private static final Set<String> seen = new TreeSet<>();

    public static void main(String[] args) {
        everyShortRun();
        for (int seed = 0; seed < LIVES; seed++) {
            life(seed);
        }
        everyOrderSeen();
        everyAnswerSeen();
        check.finish();
    }

    private static void everyShortRun() {
        int runs = 1;
        for (int call = 0; call < SHORT_RUN; call++) {
            runs *= ShortCall.values().length;
        }
        for (int number = 0; number < runs; number++) {
            shortRun(number);
        }
    }

    /** The digits of the number, in a system of as many as there are calls, are the run. */
    private static void shortRun(int number) {
        ShortCall[] all = ShortCall.values();
        ShortCall[] run = new ShortCall[SHORT_RUN];
        StringBuilder name = new StringBuilder("short run:");
        int rest = number;
        for (int call = 0; call < SHORT_RUN; call++) {
            run[call] = all[rest % all.length];
            rest /= all.length;
            name.append(' ').append(run[call]);
        }
        Life life = new Life(check, name.toString());
        for (ShortCall call : run) {
            call.on(life);
        }
        life.askAll();
        life.scan();
        life.askAll();
    }

    /** Most lives are as long as they may be, the others of any length. */
    private static void life(int seed) {
        Random random = new Random(2000000L + seed);
        Habit habit = Habit.values()[seed % Habit.values().length];
        Life life = new Life(check, "life " + seed + ", which " + habit);
        int length = random.nextInt(4) == 0 ? 1 + random.nextInt(Life.MOST_CALLS) : Life.MOST_CALLS;
        int[][] plan = Programs.whole(random);
        Life.Call before = null;
        while (life.calls() < length) {
            if (life.oracle().size() == 0) {
                plan = Programs.whole(random);
            }
            State state = State.of(life.oracle());
            Life.Call call = choose(random, habit);
            long answer = make(life, call, plan, random, habit);
            seen.add(before + " " + call);
            seen.add(state + " " + call);
            seen.add(call + " " + kindOf(call, answer));
            before = call;
        }
    }

    private static Life.Call choose(Random random, Habit habit) {
        int choice = random.nextInt(habit.all);
        if (choice < habit.any) {
            return Life.Call.ADD;
        }
        if (choice < habit.clear) {
            return Life.Call.CLEAR;
        }
        return choice < habit.scan ? Life.Call.SCAN : QUESTIONS[random.nextInt(QUESTIONS.length)];
    }

    private static long make(Life life, Life.Call call, int[][] plan, Random random, Habit habit) {
        int size = life.oracle().size();
        switch (call) {
            case ADD:
                boolean planned = random.nextInt(habit.any) < habit.planned && size < plan.length;
                int[] row = planned ? plan[size] : anyRow(random, size);
                return life.add(row[0], row[1], row[2], row[3]);
            case CLEAR:
                life.clear();
                return 0;
            case SCAN:
                return life.scan();
            default:
                return life.ask(call, near(random, size), near(random, 4));
        }
    }

    /** Mostly a number that is meant, at times one just outside or far outside. */
    private static int near(Random random, int bound) {
        return random.nextInt(12) == 0 ? Programs.number(random) : random.nextInt(bound + 1);
    }

    /** Often a halt, so that the program is whole more often. */
    private static int[] anyRow(Random random, int size) {
        int op = random.nextInt(3) == 0 ? 0 : near(random, 12);
        int b = op == 1 ? Programs.number(random) : near(random, 3);
        int place = near(random, random.nextInt(6) == 0 ? 24 : size);
        int c = op == 9 || op == 10 ? place : near(random, 3);
        return new int[] {op, near(random, 3), b, c};
    }

    private static String kindOf(Life.Call call, long answer) {
        switch (call) {
            case ADD:
            case SIZE:
            case SCAN:
            case ROUNDS:
                return answer <= 1 ? "" + answer : "more";
            case CODE:
                return answer == -9 ? "none" : "some";
            case LOW:
            case HIGH:
                return answer == 4294967296L ? "none" : "some";
            default:
                return "" + answer;
        }
    }

    private static void everyOrderSeen() {
        for (Life.Call call : Life.Call.values()) {
            mustBeSeen(null + " " + call);
            for (Life.Call before : Life.Call.values()) {
                mustBeSeen(before + " " + call);
            }
            for (State state : State.values()) {
                mustBeSeen(state + " " + call);
            }
        }
    }

    private static void everyAnswerSeen() {
        String[] answers = {
            "ADD -2", "ADD -1", "ADD 0", "ADD more", "SIZE 0", "SIZE 1", "SIZE more", "CODE none",
            "CODE some", "SCAN -1", "SCAN 0", "SCAN 1", "SCAN more", "ROUNDS 0", "ROUNDS 1",
            "ROUNDS more", "REACHED -1", "REACHED 0", "REACHED 1", "LOW none", "LOW some",
            "HIGH none", "HIGH some", "ALARM 0", "ALARM 1", "ALARM 2"
        };
        for (String answer : answers) {
            mustBeSeen(answer);
        }
    }

    private static void mustBeSeen(String order) {
        check.holds("no life has " + order, seen.contains(order));
    }
}
