import java.io.IOException;
import java.lang.reflect.Field;
import java.lang.reflect.Modifier;
import java.nio.file.Files;
import java.nio.file.Path;
import java.util.ArrayList;
import java.util.LinkedHashMap;
import java.util.List;
import java.util.Map;
import java.util.Set;
import java.util.TreeSet;
import java.util.regex.Matcher;
import java.util.regex.Pattern;

/**
 * LANGUAGE.md, rules 4, 8 and 11, as far as they can be counted: how deep calls go, which methods call
 * themselves, which of the library's are used, how many classes and fields there are.
 */
public final class DepthTest {
    private static final Due due = new Due();
    private static final int DEPTH_MOST = 8;
    private static final int CLASSES_MOST = 12;
    private static final int FIELDS_MOST = 20;
    private static final Pattern HEAD = Pattern.compile("^( {4}| {8})(?:[a-z]+ )*(\\w+)\\([^)]*\\) \\{$");
    private static final Pattern CALL = Pattern.compile("\\b(\\w+)\\(");
    private static final Pattern LIBRARY = Pattern.compile("\\b(?:Math|System|Arrays|Integer|Long|String|ArrayList)\\.\\w+");
    private static final Set<String> LIBRARY_USED = Set.of("Math.min", "Math.max", "System.arraycopy");

    /** Each method's own name, with the names that its body calls. */
    private static final Map<String, Set<String>> CALLS = new LinkedHashMap<>();

    public static void main(String[] args) throws IOException {
        String source = Files.readString(Path.of("src/main/java/FacingFields.java"));
        String code = source.replaceAll("(?s)/\\*.*?\\*/", " ").replaceAll("//[^\n]*", " ");
        readMethods(code);
        due.holds("methods were found: " + CALLS.keySet(), CALLS.keySet().containsAll(Set.of("type", "tryFacing", "isDigit")));
        for (String method : CALLS.keySet()) {
            List<String> deepest = deepestFrom(method, new ArrayList<>());
            due.holds(deepest + " goes eight deep at most", deepest.size() <= DEPTH_MOST);
            due.holds(method + " does not call itself", method.equals("tryFacing") || !CALLS.get(method).contains(method));
        }
        Matcher library = LIBRARY.matcher(code);
        while (library.find()) {
            due.holds(library.group() + " is known to be allowed", LIBRARY_USED.contains(library.group()));
        }
        sizes();
        due.end();
    }

    private static void readMethods(String code) {
        Set<String> called = new TreeSet<>();
        for (String line : code.split("\n")) {
            Matcher head = HEAD.matcher(line);
            if (head.matches()) {
                due.holds(head.group(2) + " is the only method of its name", !CALLS.containsKey(head.group(2)));
                called = new TreeSet<>();
                CALLS.put(head.group(2), called);
                continue;
            }
            Matcher call = CALL.matcher(line);
            while (call.find()) {
                called.add(call.group(1));
            }
        }
    }

    /** The longest row of methods, each called by the one ahead of it, none twice; the library's count too. */
    private static List<String> deepestFrom(String method, List<String> open) {
        List<String> row = new ArrayList<>(open);
        row.add(method);
        List<String> deepest = row;
        for (String called : CALLS.getOrDefault(method, Set.of())) {
            boolean isMethod = CALLS.containsKey(called) || Set.of("min", "max", "arraycopy").contains(called);
            if (isMethod && !row.contains(called)) {
                List<String> further = deepestFrom(called, row);
                deepest = further.size() > deepest.size() ? further : deepest;
            }
        }
        return deepest;
    }

    private static void sizes() {
        List<Class<?>> classes = new ArrayList<>(List.of(FacingFields.class.getDeclaredClasses()));
        classes.add(FacingFields.class);
        due.holds(classes.size() + " classes", classes.size() <= CLASSES_MOST);
        for (Class<?> each : classes) {
            int fields = 0;
            for (Field field : each.getDeclaredFields()) {
                fields += Modifier.isStatic(field.getModifiers()) ? 0 : 1;
            }
            due.holds(each + " has " + fields + " fields", fields <= FIELDS_MOST);
        }
    }
}
