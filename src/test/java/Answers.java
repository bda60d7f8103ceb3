/** All that an object answers, as a text, so that what two objects answer can be compared. */
final class Answers {
    private Answers() {
    }

    /** Makes 366 calls if there are 24 instructions, so that 146 of the 512 are left before it. */
    static String of(RangeScan x) {
        int size = x.size();
        StringBuilder out = new StringBuilder();
        out.append("size ").append(size).append(", rounds ").append(x.rounds());
        for (int p = -1; p <= size; p++) {
            out.append('\n').append(p).append(": reached ").append(x.reached(p));
            out.append(", alarm ").append(x.alarm(p)).append(", code");
            for (int field = 0; field < 4; field++) {
                out.append(' ').append(x.code(p, field));
            }
            for (int variable = 0; variable < 4; variable++) {
                out.append(", [").append(x.low(p, variable)).append(", ");
                out.append(x.high(p, variable)).append(']');
            }
        }
        return out.toString();
    }
}
