import java.io.IOException;
import java.lang.reflect.Constructor;
import java.lang.reflect.Field;
import java.lang.reflect.Method;
import java.lang.reflect.Modifier;
import java.nio.file.Files;
import java.nio.file.Path;
import java.util.Arrays;
import java.util.Set;
import java.util.TreeSet;
import java.util.regex.Pattern;

/** What can be seen of LANGUAGE.md's rules in the program's text and in its classes. */
public final class LanguageTest {
    private static final Set<String> FACE = new TreeSet<>(Arrays.asList(
        "public static final int BAD", "public static final int NO", "public static final int FULL",
        "public JoinPlanner()", "public int insert(int, int, int)", "public int remove(int, int, int)",
        "public int triples()", "public int pattern(int, int, int)", "public int clear()",
        "public int estimate(int, int)", "public int plan(int)", "public long cost()", "public int use(int)",
        "public int drop()", "public long size(int)", "public int rows()", "public int solutions()",
        "public int value(int, int)"));
    private static final String[] RULED_OUT = {
        "\\bthrow\\b", "\\bthrows\\b", "\\btry\\b", "\\bcatch\\b", "\\bfinally\\b", "\\bsynchronized\\b",
        "\\bassert\\b", "\\bpackage\\b", "->", "::", "\\bstatic\\s*\\{", "\\bprotected\\b", "\\bnative\\b",
        "\\bvolatile\\b", "\\bvar\\b", "\\w+Exact\\b", "\\bObject\\b", "\\bnull\\b", "\\bSystem\\.(?!arraycopy\\b)",
        "\\bArrays\\.(?!(copyOf|copyOfRange|fill)\\b)", "\\bMath\\.(?!(min|max|abs|floorMod|floorDiv)\\b)",
        "\\b(Integer|Long)\\.(?!(bitCount|compare|min|max)\\b)", "\\bimport\\s+(?!java\\.util\\.Arrays;)"};

    private LanguageTest() {
    }

    public static void main(String[] args) throws IOException {
        String text = Files.readString(Path.of(System.getProperty("program", "src/main/java/JoinPlanner.java")));
        String code = text.replaceAll("(?s)/\\*.*?\\*/", "").replaceAll("//[^\n]*", "");
        for (String form : RULED_OUT) {
            Due.holds("the program has none of " + form, !Pattern.compile(form).matcher(code).find());
        }
        methodsAreShort(code);
        face();
        Class<?>[] inside = JoinPlanner.class.getDeclaredClasses();
        Due.holds("at most twelve classes", inside.length + 1 <= 12);
        oneClass(JoinPlanner.class);
        for (Class<?> each : inside) {
            Due.holds(each + " is static", Modifier.isStatic(each.getModifiers()));
            Due.holds(each + " is not public or protected", (each.getModifiers() & (Modifier.PUBLIC | Modifier.PROTECTED)) == 0);
            oneClass(each);
        }
        Due.end();
    }

    private static void face() {
        Due.holds("the class is public and final", Modifier.isPublic(JoinPlanner.class.getModifiers())
            && Modifier.isFinal(JoinPlanner.class.getModifiers()));
        Set<String> seen = new TreeSet<>();
        for (Field field : JoinPlanner.class.getDeclaredFields()) {
            if (!Modifier.isPrivate(field.getModifiers())) {
                seen.add(Modifier.toString(field.getModifiers()) + " " + field.getType() + " " + field.getName());
            }
        }
        for (Constructor<?> constructor : JoinPlanner.class.getDeclaredConstructors()) {
            seen.add(Modifier.toString(constructor.getModifiers()) + " JoinPlanner" + types(constructor.getParameterTypes()));
        }
        for (Method method : JoinPlanner.class.getDeclaredMethods()) {
            if (!Modifier.isPrivate(method.getModifiers())) {
                seen.add(Modifier.toString(method.getModifiers()) + " " + method.getReturnType() + " " + method.getName()
                    + types(method.getParameterTypes()));
            }
        }
        Due.holds("the face is the document's: " + seen, seen.equals(FACE));
    }

    private static String types(Class<?>[] types) {
        return Arrays.toString(types).replace('[', '(').replace(']', ')');
    }

    private static void oneClass(Class<?> each) {
        int fields = 0;
        for (Field field : each.getDeclaredFields()) {
            boolean isStatic = Modifier.isStatic(field.getModifiers());
            Due.holds(field + " is final if static", !isStatic || Modifier.isFinal(field.getModifiers()));
            fields += isStatic ? 0 : 1;
        }
        Due.holds(each + " has at most twenty fields", fields <= 20);
        for (Method method : each.getDeclaredMethods()) {
            Due.holds(method + " has at most seven parameters", method.getParameterCount() <= 7);
            boolean ofTheFace = Modifier.isPublic(method.getModifiers());
            Due.holds(method + " bears no name of the face", ofTheFace || !isNameOfFace(method.getName()));
        }
    }

    private static boolean isNameOfFace(String name) {
        return FACE.stream().anyMatch(member -> member.contains(" " + name + "("));
    }

    /** A method begins with a line that ends in ") {" and is indented as members are, and ends with its brace. */
    private static void methodsAreShort(String code) {
        String[] lines = code.split("\n");
        int from = -1;
        String end = "";
        for (int i = 0; i < lines.length; i++) {
            if (from < 0 && lines[i].matches(" {4}(?: {4})?\\S.*\\) \\{")) {
                from = i;
                end = lines[i].replaceAll("\\S.*", "}");
            } else if (from >= 0 && lines[i].equals(end)) {
                Due.holds("at most sixty lines: " + lines[from].trim(), i - from < 60);
                from = -1;
            }
        }
    }
}
