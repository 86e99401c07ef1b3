import java.io.IOException;
import java.lang.reflect.Field;
import java.lang.reflect.InvocationTargetException;
import java.lang.reflect.Method;
import java.lang.reflect.Modifier;
import java.nio.file.Files;
import java.nio.file.Path;
import java.util.Arrays;
import java.util.List;
import java.util.Set;
import java.util.TreeSet;
import java.util.regex.Matcher;
import java.util.regex.Pattern;
import java.util.stream.Stream;

/**
 * What README.md says is so: its example gives the answers that it names, it names all calls of the
 * class, and the tests that it tells of are those that there are.
 */
public final class ReadmeTest {
    private static final Pattern CALL = Pattern.compile("hall\\.(\\w+)\\((.*)\\);\\s*// (.*)");
    private static final Pattern NAME_IN_LIST = Pattern.compile("`(\\w+)`");
    private static final Pattern TEST_IN_LIST = Pattern.compile("(?m)^- `(\\w+Test)`");

    private final String text;
    private final MaskHall hall = new MaskHall();
    private int wrong;
    private int answers;

    private ReadmeTest(String text) {
        this.text = text;
    }

    public static void main(String[] args) throws IOException, ReflectiveOperationException {
        ReadmeTest test = new ReadmeTest(Files.readString(Path.of("README.md")));
        test.runExample();
        test.needAllCalls();
        test.needAllTests();
        System.out.println(test.answers + " answers of the example, " + test.wrong + " wrong");
        if (test.wrong != 0 || test.answers == 0) {
            System.exit(1);
        }
    }

    // ---- the example

    private void runExample() throws ReflectiveOperationException {
        List<String> lines = between("```java\n", "```").lines().toList();
        need("MaskHall hall = new MaskHall();", lines.isEmpty() ? "" : lines.get(0));
        for (String line : lines.subList(Math.min(1, lines.size()), lines.size())) {
            Matcher call = CALL.matcher(line);
            if (call.matches()) {
                runLine(line, methodNamed(call.group(1)), call.group(2), call.group(3));
            } else {
                isWrong("no call with its answer: " + line);
            }
        }
    }

    /** The answer stands first behind the call, or behind "throws"; a call without one says what it does. */
    private void runLine(String line, Method method, String arguments, String comment)
            throws ReflectiveOperationException {
        String got = answerOf(method, arguments.isEmpty() ? new String[0] : arguments.split(", *"));
        String[] words = comment.split("[ :,;]+");
        boolean isRefused = words[0].equals("throws") && words.length > 1;
        String named = isRefused ? words[1] : words[0];
        if (method.getReturnType() == void.class && !isRefused) {
            named = "nothing";
        }
        answers++;
        if (!got.equals(isConstant(named) ? valueOf(named).toString() : named)) {
            isWrong(line + ": answered " + got);
        }
    }

    private String answerOf(Method method, String[] arguments) throws ReflectiveOperationException {
        Object[] values = new Object[arguments.length];
        for (int i = 0; i < values.length; i++) {
            values[i] = valueOf(arguments[i].replaceFirst("^MaskHall\\.", ""));
        }
        try {
            Object answer = method.invoke(hall, values);
            return answer == null ? "nothing" : answer.toString();
        } catch (InvocationTargetException e) {
            return e.getCause().getClass().getSimpleName();
        }
    }

    private static Object valueOf(String word) throws ReflectiveOperationException {
        if (word.equals("true") || word.equals("false")) {
            return Boolean.valueOf(word);
        }
        return isConstant(word) ? MaskHall.class.getField(word).get(null) : Integer.valueOf(word);
    }

    private static boolean isConstant(String word) {
        return Arrays.stream(MaskHall.class.getFields()).map(Field::getName).anyMatch(word::equals);
    }

    // ---- the lists

    private void needAllCalls() {
        Set<String> named = new TreeSet<>();
        for (String list : List.of("- Before a night: ", "- A night: ", "- Asking: ")) {
            Matcher name = NAME_IN_LIST.matcher(between(list, "."));
            while (name.find()) {
                named.add(name.group(1));
            }
        }
        need(new TreeSet<>(calls().map(Method::getName).toList()), named);
    }

    private void needAllTests() throws IOException {
        Set<String> named = new TreeSet<>();
        Matcher name = TEST_IN_LIST.matcher(text);
        while (name.find()) {
            named.add(name.group(1));
        }
        Set<String> there = new TreeSet<>();
        try (Stream<Path> files = Files.list(Path.of("src/test/java"))) {
            files.map(f -> f.getFileName().toString()).filter(f -> f.endsWith("Test.java"))
                    .forEach(f -> there.add(f.replace(".java", "")));
        }
        need(there, named);
    }

    // ---- what both need

    private static Stream<Method> calls() {
        return Arrays.stream(MaskHall.class.getDeclaredMethods()).filter(m -> Modifier.isPublic(m.getModifiers()));
    }

    private static Method methodNamed(String name) throws NoSuchMethodException {
        return calls().filter(m -> m.getName().equals(name)).findAny()
                .orElseThrow(() -> new NoSuchMethodException(name));
    }

    private String between(String start, String end) {
        int from = text.indexOf(start);
        int to = text.indexOf(end, from + start.length());
        if (from < 0 || to < 0) {
            isWrong("README.md has no part from \"" + start.strip() + "\" to \"" + end + "\"");
            return "";
        }
        return text.substring(from + start.length(), to);
    }

    private void need(Object want, Object got) {
        if (!want.equals(got)) {
            isWrong("README.md has " + got + ", due " + want);
        }
    }

    private void isWrong(String how) {
        wrong++;
        System.out.println(how);
    }
}
