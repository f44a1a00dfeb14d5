import java.io.IOException;
import java.nio.file.Files;
import java.nio.file.Path;
import java.util.regex.Matcher;
import java.util.regex.Pattern;

/** What LANGUAGE.md forbids and can be seen by reading: it must not stand in the source. */
public final class LanguageTest {
    private static final Due due = new Due();
    private static final String[] FORBIDDEN = {
        "\\bthrow\\b", "\\bthrows\\b", "\\btry\\b", "\\bcatch\\b", "\\bsynchronized\\b", "\\bassert\\b",
        "\\bimport\\b", "\\bpackage\\b", "->", "::", "\\bprotected\\b", "static\\s*\\{", "\\bThread\\b",
        "\\bRandom\\b", "currentTimeMillis", "nanoTime", "Exact\\b", "\\bvar\\b", "\\bObject\\b", "\\bhashCode\\b",
        "\\btoString\\b", "\\bequals\\b", "\"",
    };

    public static void main(String[] args) throws IOException {
        String source = Files.readString(Path.of("src/main/java/FacingFields.java"));
        String code = source.replaceAll("(?s)/\\*.*?\\*/", " ").replaceAll("//[^\n]*", " ");
        for (String form : FORBIDDEN) {
            Matcher found = Pattern.compile(form).matcher(code);
            due.holds(form + " does not stand in the code", !found.find());
        }
        for (int i = 0; i < source.length(); i++) {
            if (source.charAt(i) > 127) {
                due.holds("sign " + (int) source.charAt(i) + " at " + i, false);
            }
        }
        methodsStayShort(code);
        due.end();
    }

    private static void methodsStayShort(String code) {
        int length = 0;
        for (String line : code.split("\n")) {
            boolean begins = line.matches("( {4}| {8})[a-z].*\\) \\{");
            length = begins ? 0 : length + 1;
            if (line.matches(" {4}}| {8}}")) {
                due.holds("a method of at most sixty lines", length <= 60);
            }
        }
    }
}
