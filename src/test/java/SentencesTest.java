import java.io.IOException;
import java.lang.reflect.Method;
import java.nio.file.Files;
import java.nio.file.Path;
import java.util.LinkedHashMap;
import java.util.Map;
import java.util.regex.Matcher;
import java.util.regex.Pattern;

/**
 * Holds the words that the tests say they hold against the document: they stand there, under the
 * heading that is named, and no word of the Terms or of a promise is left without a test.
 */
public final class SentencesTest {
    private static final Path DOCUMENT = Path.of("../shared/DOC.md");
    private static final int PROMISES = 29;
    private static final Pattern HEADING = Pattern.compile("(?m)^## (Promise \\d+|[^\\n:]*).*$");
    /** Tells where the interface is parted: nothing that a call could answer. */
    private static final Pattern NOT_A_CASE = Pattern.compile("Ahead of the calls .*? the interface says: ---- \\d [a-z, ]+\\.");

    public static void main(String[] args) throws IOException {
        Due due = new Due();
        Map<String, String> texts = texts(Files.readString(DOCUMENT));
        Map<String, StringBuilder> left = new LinkedHashMap<>();
        texts.forEach((heading, text) -> left.put(heading, new StringBuilder(text)));
        for (Class<?> test : Edges.TESTS) {
            for (Method m : Edges.methodsOf(test)) {
                Says says = m.getAnnotation(Says.class);
                String text = texts.getOrDefault(says.in(), "");
                String told = test.getName() + "." + m.getName() + ": " + says.in() + " says (" + says.words() + ")";
                due.holds(told, text.contains(says.words()));
                strike(text, says.words(), left.getOrDefault(says.in(), new StringBuilder()));
            }
        }
        nothingIsLeft(due, "Terms", left);
        for (int i = 1; i <= PROMISES; i++) {
            nothingIsLeft(due, "Promise " + i, left);
        }
        due.end();
    }

    /** Heading to text, in one line and without its marks and the method that a promise begins with. */
    private static Map<String, String> texts(String document) {
        Map<String, String> texts = new LinkedHashMap<>();
        Matcher headings = HEADING.matcher(document);
        int next = 0;
        while (headings.find(next)) {
            next = headings.end();
            Matcher behind = HEADING.matcher(document);
            int end = behind.find(next) ? behind.start() : document.length();
            String text = document.substring(next, end).trim();
            text = text.replaceFirst("^`[^`]*`: ", "").replace("```text", " ").replace("`", " ");
            text = text.replaceAll("==== \\d", " ").replaceAll("\\s+", " ");
            texts.put(headings.group(1).trim(), NOT_A_CASE.matcher(text).replaceAll(" "));
        }
        return texts;
    }

    private static void strike(String text, String words, StringBuilder left) {
        int at = text.indexOf(words);
        while (at >= 0 && !words.isEmpty()) {
            for (int i = at; i < at + words.length(); i++) {
                left.setCharAt(i, ' ');
            }
            at = text.indexOf(words, at + words.length());
        }
    }

    private static void nothingIsLeft(Due due, String heading, Map<String, StringBuilder> left) {
        StringBuilder rest = left.get(heading);
        due.holds("the document has " + heading, rest != null);
        if (rest != null) {
            String words = rest.toString().replaceAll("\\s+", " ").trim();
            due.holds(heading + " has no test for: " + words, !words.matches(".*[A-Za-z0-9].*"));
        }
    }
}
