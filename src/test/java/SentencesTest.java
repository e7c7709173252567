import java.io.IOException;
import java.lang.reflect.Method;
import java.nio.file.Files;
import java.nio.file.Path;
import java.util.ArrayList;
import java.util.List;
import java.util.regex.Matcher;
import java.util.regex.Pattern;

/** SENTENCES.md: it quotes the whole of DOC.md in its order, and the parts and the tests that it names are there. */
public final class SentencesTest {
    private static final Check CHECK = new Check("the document's sentences");
    private static final Path DOCUMENT = Path.of("../shared/DOC.md");
    private static final Path SENTENCES = Path.of("SENTENCES.md");
    private static final Path SOURCE = Path.of("src/main/java/TwoServes.java");
    private static final Pattern NAMED = Pattern.compile("`([^`]+)`");

    private SentencesTest() {
    }

    public static void main(String[] args) throws IOException {
        String rest = document();
        String source = Files.readString(SOURCE);
        for (String[] entry : entries()) {
            boolean next = rest.startsWith(entry[0]);
            CHECK.that("next in the document: " + entry[0] + " (there: " + begin(rest) + ")", next);
            if (!next) {
                break;
            }
            rest = rest.substring(entry[0].length()).strip();
            parts(entry[1], source);
            tests(entry[0], entry[1]);
        }
        CHECK.that("nothing of the document is left: " + begin(rest), rest.isEmpty());
        CHECK.end();
    }

    private static String begin(String text) {
        return text.substring(0, Math.min(80, text.length()));
    }

    /** Without its headings, blanks made one, the Java of the face as one word for it. */
    private static String document() throws IOException {
        String text = Files.readString(DOCUMENT).replaceAll("(?s)```java\n.*?```", "(the public face)");
        return text.replaceAll("(?m)^#.*$|^```.*$", " ").replaceAll("\\s+", " ").strip();
    }

    /** Each quote with what stands below it. */
    private static List<String[]> entries() throws IOException {
        List<String[]> entries = new ArrayList<>();
        boolean quoting = false;
        for (String line : Files.readAllLines(SENTENCES)) {
            boolean quotes = line.startsWith("> ");
            if (quotes && !quoting) {
                entries.add(new String[] {"", ""});
            }
            quoting = quotes;
            if (!entries.isEmpty() && !line.startsWith("#")) {
                String[] last = entries.get(entries.size() - 1);
                last[quotes ? 0 : 1] = (last[quotes ? 0 : 1] + " " + (quotes ? line.substring(2) : line)).strip();
            }
        }
        return entries;
    }

    private static void parts(String below, String source) {
        CHECK.that("begins with the class: " + below, below.startsWith("Class: ") && below.contains(" Tests: "));
        Matcher named = NAMED.matcher(below.replaceAll(" Tests: .*", ""));
        while (named.find()) {
            boolean free = below.contains("has no `" + named.group(1)) || below.endsWith("as all of this is free.");
            CHECK.that(named.group(1) + " stands in the class",
                free || Pattern.compile("\\b" + named.group(1) + "\\b").matcher(source).find());
        }
    }

    private static void tests(String quote, String below) {
        Matcher named = NAMED.matcher(below.replaceAll(".* Tests: ", ""));
        int tests = 0;
        while (named.find()) {
            CHECK.that(named.group(1) + " is a test", isThere(named.group(1)));
            tests++;
        }
        CHECK.that("a test for: " + quote, tests > 0 || below.endsWith("Tests: none, as all of this is free."));
    }

    private static boolean isThere(String test) {
        String[] parts = test.split("\\.");
        try {
            for (Method method : Class.forName(parts[0]).getDeclaredMethods()) {
                if (parts.length == 2 && method.getName().equals(parts[1]) && parts[0].endsWith("Test")) {
                    return true;
                }
            }
            return false;
        } catch (ClassNotFoundException e) {
            return false;
        }
    }
}
