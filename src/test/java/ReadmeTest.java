import java.io.IOException;
import java.lang.reflect.Method;
import java.lang.reflect.Modifier;
import java.nio.file.Files;
import java.nio.file.Path;
import java.util.Arrays;
import java.util.HashMap;
import java.util.Map;
import java.util.Set;
import java.util.TreeSet;
import java.util.regex.Matcher;
import java.util.regex.Pattern;

/** Makes the calls that README.md shows, and looks whether they answer as it says. */
public final class ReadmeTest {
    private static final Pattern BLOCK = Pattern.compile("(?ms)^```java\n(.*?)^```$");
    private static final Pattern MAKING = Pattern.compile("RangeScan (\\w+) = new RangeScan\\(\\);");
    private static final Pattern CALL =
            Pattern.compile("(\\w+)\\.(\\w+)\\(((?:-?\\d+(?:, -?\\d+)*)?)\\);( +// (.+))?");
    /** A comment begins with the answer, if there is one, and may say more behind a colon. */
    private static final Pattern ANSWER = Pattern.compile("(-?\\d+)(: .+)?");

    private static final Check check = new Check();
    private static final Set<String> shown = new TreeSet<>();

    public static void main(String[] args) throws IOException, ReflectiveOperationException {
        Matcher block = BLOCK.matcher(Files.readString(Path.of("README.md")));
        while (block.find()) {
            makeCalls(block.group(1));
        }
        for (Method method : RangeScan.class.getDeclaredMethods()) {
            boolean hidden = Modifier.isPrivate(method.getModifiers());
            check.holds("README.md does not show " + method.getName(),
                    hidden || shown.contains(method.getName()));
        }
        check.finish();
    }

    private static void makeCalls(String block) throws ReflectiveOperationException {
        Map<String, RangeScan> objects = new HashMap<>();
        for (String line : block.split("\n")) {
            Matcher making = MAKING.matcher(line);
            Matcher call = CALL.matcher(line);
            if (making.matches()) {
                objects.put(making.group(1), new RangeScan());
            } else if (call.matches() && objects.containsKey(call.group(1))) {
                makeCall(line, objects.get(call.group(1)), call);
            } else {
                check.holds("README.md has a line that is no call: " + line, line.isBlank());
            }
        }
    }

    private static void makeCall(String line, RangeScan x, Matcher call)
            throws ReflectiveOperationException {
        String[] texts = call.group(3).isEmpty() ? new String[0] : call.group(3).split(", ");
        Class<?>[] types = new Class<?>[texts.length];
        Arrays.fill(types, int.class);
        Object[] numbers = Arrays.stream(texts).map(Integer::valueOf).toArray();
        Object got = RangeScan.class.getMethod(call.group(2), types).invoke(x, numbers);
        shown.add(call.group(2));
        String said = call.group(5) == null ? "" : call.group(5);
        Matcher answer = ANSWER.matcher(said);
        if (got == null) {
            check.holds("README.md says an answer where there is none: " + line, !answer.matches());
        } else if (answer.matches()) {
            check.due("README.md: " + line, ((Number) got).longValue(), Long.parseLong(answer.group(1)));
        } else {
            check.holds("README.md does not say what it answers: " + line, false);
        }
    }
}
