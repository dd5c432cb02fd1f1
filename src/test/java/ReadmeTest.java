import java.io.IOException;
import java.nio.file.Files;
import java.nio.file.Path;
import java.util.Arrays;
import java.util.regex.Matcher;
import java.util.regex.Pattern;

/** The examples of README.md: each call there answers what stands behind it. */
public final class ReadmeTest {
    private static final Pattern EXAMPLE = Pattern.compile("(?s)```java\n(.*?)```");
    private static final Pattern CALL = Pattern.compile("x\\.(\\w+)\\(([-\\d, ]*)\\); +// (-?\\d+)\\b.*");
    private static final String NEW = "WornRings x = new WornRings();";

    public static void main(String[] args) throws IOException {
        Due due = new Due();
        Matcher examples = EXAMPLE.matcher(Files.readString(Path.of("README.md")));
        Asked x = new Asked();
        while (examples.find()) {
            for (String line : examples.group(1).split("\n")) {
                Matcher call = CALL.matcher(line);
                if (line.equals(NEW)) {
                    x = new Asked();
                } else if (call.matches()) {
                    due.is(line, x.ask(call.group(1), numbers(call.group(2))), Long.parseLong(call.group(3)));
                } else {
                    due.holds("README.md, neither a call nor its answer: " + line, line.isBlank());
                }
            }
        }
        due.end();
    }

    private static int[] numbers(String told) {
        return told.isBlank() ? new int[0] : Arrays.stream(told.split(", ")).mapToInt(Integer::parseInt).toArray();
    }
}
