import java.lang.reflect.Constructor;
import java.lang.reflect.Field;
import java.lang.reflect.Method;
import java.lang.reflect.Modifier;
import java.util.Arrays;
import java.util.Set;
import java.util.TreeSet;

/** The class shows the document's face and nothing else. */
public final class FaceTest {
    private static final Due due = new Due();
    private static final Set<String> FACE = new TreeSet<>(Arrays.asList(
            "int type(int)", "int clear()", "int valley()", "int man(int,int)", "int yieldOf(int,int)",
            "int carries(int,int)", "int has(int,int)", "int now(int)", "int sows(int,int)", "int rains(int)",
            "int ropes(int,int)", "int mules(int,int)", "int marries(int,int)", "int year()", "int undo()",
            "int best(int,int,int)", "int rest(int,int)", "int hungry(int)", "int faces(int)", "int needed(int)",
            "int stubble(int,int)", "int forget()", "int cut(int)", "int odds(int,int,int,int,int)",
            "int rich(int,int)", "int poor()", "int share(int,int)", "int rate(int,int)", "int keep(int)",
            "int back(int)", "int count(int)", "long trace()"));

    public static void main(String[] args) {
        Class<?> face = FacingFields.class;
        due.holds("public and final", Modifier.isPublic(face.getModifiers()) && Modifier.isFinal(face.getModifiers()));
        constants();
        Set<String> shown = new TreeSet<>();
        Set<String> names = new TreeSet<>();
        for (Method method : face.getDeclaredMethods()) {
            if (!Modifier.isPrivate(method.getModifiers())) {
                shown.add(signature(method));
                names.add(method.getName());
                due.holds(method + " is public", Modifier.isPublic(method.getModifiers()));
                due.holds(method + " is no static one", !Modifier.isStatic(method.getModifiers()));
            }
        }
        due.holds("the methods shown are " + shown, shown.equals(FACE));
        hidden(face, names);
        for (Constructor<?> made : face.getDeclaredConstructors()) {
            due.holds(made.toString(), Modifier.isPublic(made.getModifiers()) && made.getParameterCount() == 0);
        }
        for (Class<?> inside : face.getDeclaredClasses()) {
            due.holds(inside + " is static", Modifier.isStatic(inside.getModifiers()));
            due.holds(inside + " is not shown", !Modifier.isPublic(inside.getModifiers()));
            hidden(inside, names);
        }
        due.end();
    }

    private static void constants() {
        due.is("BAD", FacingFields.BAD, -1);
        due.is("STATE", FacingFields.STATE, -2);
        due.is("FULL", FacingFields.FULL, -3);
        due.is("NONE", FacingFields.NONE, -9);
        due.is("NO", FacingFields.NO, -1000000);
        Set<String> shown = new TreeSet<>();
        for (Field field : FacingFields.class.getDeclaredFields()) {
            if (!Modifier.isPrivate(field.getModifiers())) {
                shown.add(field.getName());
            }
            if (Modifier.isStatic(field.getModifiers())) {
                due.holds(field + " is final", Modifier.isFinal(field.getModifiers()));
            }
        }
        due.holds("the constants shown are " + shown, shown.equals(Set.of("BAD", "STATE", "FULL", "NONE", "NO")));
    }

    private static void hidden(Class<?> inside, Set<String> names) {
        for (Method method : inside.getDeclaredMethods()) {
            boolean shown = inside == FacingFields.class && Modifier.isPublic(method.getModifiers());
            due.holds(method + " has a name of its own", shown || !names.contains(method.getName()));
            due.holds(method + " takes seven at most", method.getParameterCount() <= 7);
        }
    }

    private static String signature(Method method) {
        StringBuilder line = new StringBuilder(method.getReturnType() + " " + method.getName() + "(");
        for (Class<?> type : method.getParameterTypes()) {
            line.append(line.charAt(line.length() - 1) == '(' ? "" : ",").append(type);
        }
        return line.append(")").toString();
    }
}
