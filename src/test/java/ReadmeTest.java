import java.io.IOException;
import java.nio.file.Files;
import java.nio.file.Path;
import java.util.regex.Matcher;
import java.util.regex.Pattern;

/** README.md's calls, made in its order on one object, answer what it says. */
public final class ReadmeTest {
    private static final Due due = new Due();
    private static final Pattern CALL = Pattern.compile("x\\.(\\w+)\\(([^)]*)\\); *// (-?\\d+): .*");
    private static final Pattern TEXT = Pattern.compile("String text = \"([^\"]*)\";");

    public static void main(String[] args) throws IOException {
        Run run = new Run(due, "README.md");
        int found = 0;
        for (String line : Files.readString(Path.of("README.md")).split("\n")) {
            Matcher text = TEXT.matcher(line);
            if (text.matches()) {
                run.typed(text.group(1));
            }
            Matcher call = CALL.matcher(line);
            if (call.matches()) {
                run.is(asWords(call.group(1), call.group(2)), Long.parseLong(call.group(3)));
                found++;
            } else {
                due.holds("'" + line + "' says what it answers", !line.startsWith("x."));
            }
        }
        due.holds("README.md has calls to make, found " + found, found > 30);
        due.end();
    }

    /** A call as Run takes it: its name and its numbers, a sign by its number. */
    private static String asWords(String name, String numbers) {
        String words = name;
        for (String number : numbers.isEmpty() ? new String[0] : numbers.split(", ")) {
            words += " " + (number.startsWith("'") ? Integer.toString(number.charAt(1)) : number);
        }
        return words;
    }
}
