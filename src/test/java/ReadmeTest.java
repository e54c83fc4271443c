import java.io.File;
import java.io.IOException;
import java.lang.reflect.Method;
import java.lang.reflect.Modifier;
import java.nio.file.Files;
import java.nio.file.Path;
import java.util.Arrays;
import java.util.Set;
import java.util.TreeSet;
import java.util.regex.Matcher;
import java.util.regex.Pattern;

/** What README.md shows holds: its calls give the answers that stand behind them, and it names every call and test. */
public final class ReadmeTest {
    private static final Path README = Path.of("README.md");
    private static final File TESTS = new File("src/test/java");
    private static final Pattern EXAMPLE = Pattern.compile("```java\n(.*?)```", Pattern.DOTALL);
    private static final Pattern CALL = Pattern.compile("x\\.(\\w+)\\(([^()]*)\\); +// (-?\\d+|BAD|NO|FULL)(?:: .+)?");
    private static final String NEW_OBJECT = "JoinPlanner x = new JoinPlanner();";
    private static final int LEAST_CALLS = 50;

    private static final Set<String> called = new TreeSet<>();
    private static final Set<String> answered = new TreeSet<>();
    private static int calls = 0;

    private ReadmeTest() {
    }

    public static void main(String[] args) throws IOException, ReflectiveOperationException {
        String text = Files.readString(README);
        examples(text);
        everyCallIsNamed(text);
        everyTestIsNamed(text);
        Due.end();
    }

    private static void examples(String text) throws ReflectiveOperationException {
        Matcher example = EXAMPLE.matcher(text);
        while (example.find()) {
            go(example.group(1));
        }
        Due.holds("README: the examples have calls enough", calls >= LEAST_CALLS);
        for (Method method : face()) {
            Due.holds("README: the examples show " + method.getName() + "()", called.contains(method.getName()));
        }
        for (String name : new String[] {"BAD", "NO", "FULL"}) {
            Due.holds("README: the examples show " + name, answered.contains(name));
        }
    }

    /** Every line has to be one that this test can read, so that no call is passed over. */
    private static void go(String example) throws ReflectiveOperationException {
        JoinPlanner x = null;
        for (String line : example.split("\n")) {
            Matcher call = CALL.matcher(line);
            if (line.equals(NEW_OBJECT)) {
                x = new JoinPlanner();
            } else if (x != null && call.matches()) {
                answer(x, line, call);
            } else {
                Due.holds("README: a line that is no call with its answer: " + line, line.isEmpty() || line.startsWith("// "));
            }
        }
    }

    private static void answer(JoinPlanner x, String line, Matcher call) throws ReflectiveOperationException {
        String[] written = call.group(2).isEmpty() ? new String[0] : call.group(2).split(", ");
        Object[] arguments = new Object[written.length];
        for (int i = 0; i < written.length; i++) {
            arguments[i] = number(written[i]);
        }
        calls++;
        called.add(call.group(1));
        answered.add(call.group(3));
        Number got = (Number) method(call.group(1)).invoke(x, arguments);
        Due.is("README: " + line, got.longValue(), due(call.group(3)));
    }

    private static int number(String written) {
        return written.startsWith("0b") ? Integer.parseInt(written.substring(2), 2) : Integer.parseInt(written);
    }

    private static long due(String written) {
        return switch (written) {
            case "BAD" -> -1;
            case "NO" -> -2;
            case "FULL" -> -3;
            default -> Long.parseLong(written);
        };
    }

    private static Method method(String name) throws NoSuchMethodException {
        for (Method method : face()) {
            if (method.getName().equals(name)) {
                return method;
            }
        }
        throw new NoSuchMethodException("README calls " + name);
    }

    private static Iterable<Method> face() {
        return Arrays.stream(JoinPlanner.class.getDeclaredMethods())
            .filter(method -> Modifier.isPublic(method.getModifiers())).toList();
    }

    private static void everyCallIsNamed(String text) {
        for (Method method : face()) {
            String row = "\\| `" + method.getReturnType() + " " + method.getName() + "\\("
                + "int \\w+, ".repeat(method.getParameterCount()).replaceAll(", $", "") + "\\)` \\|";
            Due.holds("README: a row for " + method, Pattern.compile(row).matcher(text).find());
        }
        Due.holds("README: new JoinPlanner()", text.contains("`new JoinPlanner()`"));
        Due.holds("README: BAD is -1", JoinPlanner.BAD == -1 && text.contains("`BAD` (-1)"));
        Due.holds("README: NO is -2", JoinPlanner.NO == -2 && text.contains("`NO` (-2)"));
        Due.holds("README: FULL is -3", JoinPlanner.FULL == -3 && text.contains("`FULL` (-3)"));
        Due.holds("README: 512 calls", text.contains("at most 512 calls"));
    }

    private static void everyTestIsNamed(String text) {
        String[] files = TESTS.list((folder, name) -> name.endsWith("Test.java"));
        Due.holds("README: there are tests", files != null && files.length > 0);
        if (files != null) {
            for (String file : files) {
                Due.holds("README: names " + file, text.contains("`" + file.replace(".java", "") + "`"));
            }
        }
        Matcher named = Pattern.compile("`(\\w+Test)`").matcher(text);
        while (named.find()) {
            Due.holds("README: there is a " + named.group(1), new File(TESTS, named.group(1) + ".java").isFile());
        }
    }
}
