/** Counts the answers of one test that are not the ones that are due, and prints them. */
final class Check {
    private static final int MOST_PRINTED = 20;

    private int asked = 0;
    private int wrong = 0;

    void due(String call, long got, long want) {
        asked++;
        if (got != want) {
            fault(call + " answered " + got + ", due is " + want);
        }
    }

    void holds(String what, boolean right) {
        asked++;
        if (!right) {
            fault(what);
        }
    }

    void same(String what, String got, String want) {
        holds(what + " answered\n" + got + "\ndue is\n" + want, got.equals(want));
    }

    private void fault(String text) {
        wrong++;
        if (wrong <= MOST_PRINTED) {
            System.out.println(text);
        }
    }

    void finish() {
        System.out.println(asked + " answers, " + wrong + " not as due");
        if (wrong != 0 || asked == 0) {
            System.exit(1);
        }
    }
}
