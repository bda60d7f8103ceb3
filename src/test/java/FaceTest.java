import java.io.IOException;
import java.lang.reflect.Constructor;
import java.lang.reflect.Field;
import java.lang.reflect.Method;
import java.lang.reflect.Modifier;
import java.nio.file.Files;
import java.nio.file.Path;
import java.util.Set;
import java.util.TreeSet;
import java.util.regex.Matcher;
import java.util.regex.Pattern;

/** The public face is the document's, and the file keeps to the rules that a text can show. */
public final class FaceTest {
    private static final Set<String> FACE = Set.of(
            "int add(int, int, int, int)", "void clear()", "int size()", "int code(int, int)",
            "int scan()", "int rounds()", "int reached(int)", "long low(int, int)",
            "long high(int, int)", "int alarm(int)");
    private static final String FORBIDDEN =
            "\\b(throw|throws|try|catch|synchronized|assert|import|package|protected)\\b|->|::|Exact\\(";

    /** The classes of the file, and the one of the library that it needs. */
    private static final Set<String> TYPES =
            Set.of("RangeScan", "Flow", "States", "Results", "Math");

    private static final Check check = new Check();

    public static void main(String[] args) throws IOException {
        face();
        names();
        fields(RangeScan.class);
        parameters(RangeScan.class);
        classesInside();
        text();
        check.finish();
    }

    private static String signature(Method method) {
        StringBuilder out = new StringBuilder();
        out.append(method.getReturnType().getName()).append(' ').append(method.getName()).append('(');
        for (Class<?> type : method.getParameterTypes()) {
            out.append(out.charAt(out.length() - 1) == '(' ? "" : ", ").append(type.getName());
        }
        return out.append(')').toString();
    }

    private static void face() {
        int modifiers = RangeScan.class.getModifiers();
        check.holds("the class is public and final",
                Modifier.isPublic(modifiers) && Modifier.isFinal(modifiers));
        Constructor<?>[] made = RangeScan.class.getDeclaredConstructors();
        check.holds("one public constructor without arguments", made.length == 1
                && Modifier.isPublic(made[0].getModifiers()) && made[0].getParameterCount() == 0);
        Set<String> open = new TreeSet<>();
        for (Method method : RangeScan.class.getDeclaredMethods()) {
            if (!Modifier.isPrivate(method.getModifiers())) {
                open.add(signature(method));
                check.holds(method + " is public and of an object",
                        (method.getModifiers() & (Modifier.PUBLIC | Modifier.STATIC)) == Modifier.PUBLIC);
            }
        }
        check.holds("the methods that are not private: " + open, open.equals(FACE));
    }

    private static void names() {
        Set<String> open = new TreeSet<>();
        for (String line : FACE) {
            open.add(line.substring(line.indexOf(' ') + 1, line.indexOf('(')));
        }
        for (Method method : RangeScan.class.getDeclaredMethods()) {
            boolean hidden = Modifier.isPrivate(method.getModifiers());
            check.holds(method + " bears a public name", !hidden || !open.contains(method.getName()));
        }
    }

    private static void fields(Class<?> owner) {
        for (Field field : owner.getDeclaredFields()) {
            int modifiers = field.getModifiers();
            check.holds(field + " is private", Modifier.isPrivate(modifiers));
            check.holds(field + " is a constant if static", !Modifier.isStatic(modifiers)
                    || Modifier.isFinal(modifiers) && field.getType().isPrimitive());
        }
    }

    private static void parameters(Class<?> owner) {
        for (Method method : owner.getDeclaredMethods()) {
            check.holds(method + " takes too many", method.getParameterCount() <= 7);
        }
    }

    private static void classesInside() {
        for (Class<?> inside : RangeScan.class.getDeclaredClasses()) {
            check.holds(inside + " is static", Modifier.isStatic(inside.getModifiers()));
            check.holds(inside + " is not open",
                    (inside.getModifiers() & (Modifier.PUBLIC | Modifier.PROTECTED)) == 0);
            fields(inside);
            parameters(inside);
        }
    }

    private static void text() throws IOException {
        String source = Files.readString(Path.of("src/main/java/RangeScan.java"));
        String code = source.replaceAll("(?s)/\\*.*?\\*/", "").replaceAll("//[^\n]*", "");
        Matcher matcher = Pattern.compile(FORBIDDEN).matcher(code);
        boolean clean = !matcher.find();
        check.holds("the file has " + (clean ? "" : matcher.group()), clean);
        Matcher type = Pattern.compile("\\b([A-Z]\\w*[a-z]\\w*)\\b").matcher(code);
        while (type.find()) {
            check.holds("the file uses " + type.group(1), TYPES.contains(type.group(1)));
        }
    }
}
