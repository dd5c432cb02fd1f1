import java.io.IOException;
import java.nio.file.Files;
import java.nio.file.Path;
import java.util.regex.Matcher;
import java.util.regex.Pattern;

/** The rules of LANGUAGE.md that can be seen in the text: words and calls that must not stand in it. */
public final class LanguageTest {
    private static final String[] BANNED = {
        "\\bthrow\\b", "\\bthrows\\b", "\\btry\\b", "\\bcatch\\b", "\\bsynchronized\\b", "\\bassert\\b",
        "\\bpackage\\b", "\\bimport\\b", "->", "::", "Exact\\b", "\\bSystem\\.(?!arraycopy)", "\\bThread\\b",
        "\\brandom\\b", "\\bequals\\s*\\(", "\\bhashCode\\b", "\\btoString\\b", "\\bstatic\\s*\\{",
        "\\bdouble\\b", "\\bfloat\\b", "\\bwhile\\b", "\\bprotected\\b", "\\[\\]\\[\\]\\[\\]"};
    private static final Pattern CALL = Pattern.compile("\\b(Math|Integer|Long|Arrays|List|String)\\.(\\w+)");
    private static final Pattern METHOD = Pattern.compile("(?m)^( +)(?! )(?:[\\w\\[\\]]+ )*\\w+\\(([^)]*)\\) \\{$");
    private static final int LONGEST = 60;

    public static void main(String[] args) throws IOException {
        Due due = new Due();
        String text = Files.readString(Path.of("src/main/java/WornRings.java"));
        String code = text.replaceAll("(?s)/\\*.*?\\*/", "").replaceAll("//[^\n]*", "").replaceAll("\"[^\"\n]*\"", "");
        for (String banned : BANNED) {
            due.holds("no " + banned, !Pattern.compile(banned).matcher(code).find());
        }
        Matcher calls = CALL.matcher(code);
        while (calls.find()) {
            due.holds(calls.group() + " is in the library",
                calls.group().matches("Math\\.(max|min|abs|floorDiv|floorMod)"));
        }
        Matcher methods = METHOD.matcher(code);
        while (methods.find()) {
            int end = code.indexOf("\n" + methods.group(1) + "}", methods.end());
            String body = code.substring(methods.start(), end < 0 ? code.length() : end);
            due.holds(methods.group().trim() + " is short", body.split("\n").length <= LONGEST);
            due.holds(methods.group().trim() + " takes at most seven", methods.group(2).split(",").length <= 7);
        }
        due.end();
    }
}
