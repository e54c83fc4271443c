import java.io.IOException;
import java.nio.file.Files;
import java.nio.file.Path;
import java.util.Arrays;
import java.util.List;
import java.util.regex.Matcher;
import java.util.regex.Pattern;

/** SENTENCES.md has every word of the document, and the tests that it names exist and are run. */
public final class SentencesTest {
    private static final Path SENTENCES = Path.of("src/test/SENTENCES.md");
    private static final Path DOCUMENT = Path.of("../shared/DOC.md");
    private static final Path TESTS = Path.of("src/test/java");
    private static final Pattern NAMED = Pattern.compile("- `(\\w+Test)`(?:: (\\w+(?:, \\w+)*))?");
    private static final String NO_ANSWER = "- no answer: ";

    private SentencesTest() {
    }

    public static void main(String[] args) throws IOException {
        List<String> lines = Files.readAllLines(SENTENCES);
        everyWordIsQuoted(lines);
        everySentenceHasATest(lines);
        namedTestsAreRun(lines);
        Due.end();
    }

    private static boolean isOfTheDocument(String line) {
        return line.startsWith("#") || line.startsWith(">");
    }

    /** Headings stand as they are, all else behind a >. How the lines are broken does not count. */
    private static void everyWordIsQuoted(List<String> lines) throws IOException {
        if (!Files.isRegularFile(DOCUMENT)) {
            System.out.println("there is no " + DOCUMENT + ": what SENTENCES.md quotes is not held against it");
            return;
        }
        StringBuilder quoted = new StringBuilder();
        for (String line : lines) {
            if (isOfTheDocument(line)) {
                quoted.append(line.replaceFirst("^>", "")).append(' ');
            }
        }
        String[] got = quoted.toString().trim().split("\\s+");
        String[] due = Files.readString(DOCUMENT).trim().split("\\s+");
        int other = Arrays.mismatch(got, due);
        Due.holds("SENTENCES.md quotes the document, up to: " + wordsBefore(due, other), other < 0);
    }

    private static String wordsBefore(String[] words, int end) {
        return end < 0 ? "its end" : String.join(" ", Arrays.copyOfRange(words, Math.max(end - 8, 0), end));
    }

    /** A sentence begins with a > after a line without one; before the next one or the next heading come its tests. */
    private static void everySentenceHasATest(List<String> lines) {
        String sentence = "";
        int named = 1;
        boolean within = false;
        for (String line : lines) {
            boolean quote = line.startsWith(">");
            if (quote && !within || line.startsWith("#")) {
                Due.holds("SENTENCES.md has a test of: " + sentence, named > 0);
                sentence = line;
                named = quote ? 0 : 1;
            }
            if (line.startsWith("- ")) {
                Due.holds("SENTENCES.md can be read: " + line, NAMED.matcher(line).matches() || line.startsWith(NO_ANSWER));
                named++;
            }
            within = quote;
        }
        Due.holds("SENTENCES.md has a test of: " + sentence, named > 0);
    }

    private static void namedTestsAreRun(List<String> lines) throws IOException {
        for (String line : lines) {
            Matcher named = NAMED.matcher(line);
            if (named.matches()) {
                Path file = TESTS.resolve(named.group(1) + ".java");
                Due.holds("SENTENCES.md names " + file, Files.isRegularFile(file));
                if (named.group(2) != null && Files.isRegularFile(file)) {
                    methodsAreRun(named.group(1), Files.readString(file), named.group(2).split(", "));
                }
            }
        }
    }

    private static void methodsAreRun(String test, String text, String[] methods) {
        for (String method : methods) {
            boolean declared = Pattern.compile("private static void " + method + "\\(").matcher(text).find();
            boolean called = Pattern.compile("(?m)^ {8}" + method + "\\(\\w*\\);").matcher(text).find();
            Due.holds("SENTENCES.md names " + test + "." + method + ", which is there and is run", declared && called);
        }
    }
}
