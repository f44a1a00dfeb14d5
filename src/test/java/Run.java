import java.lang.reflect.InvocationTargetException;
import java.lang.reflect.Method;
import java.lang.reflect.Modifier;
import java.util.Map;
import java.util.TreeMap;

/**
 * One object, its calls told as text ("best 0 999 1"), and the sentence of the document that they
 * are due to. No object may be used beyond the 512 calls for which the document speaks.
 */
final class Run {
    static final int BAD = -1, STATE = -2, FULL = -3, NONE = -9, NO = -1000000;
    static final int LOW = Integer.MIN_VALUE, HIGH = Integer.MAX_VALUE;
    private static final int CALLS_MOST = 512;
    /** What a call that throws is told to have answered: no call of the face may answer it. */
    private static final long THREW = Long.MIN_VALUE;
    private static final Map<String, Method> FACE = face();

    private final Due due;
    private final String sentence;
    private final FacingFields x = new FacingFields();
    private int calls;

    Run(Due due, String sentence) {
        this.due = due;
        this.sentence = sentence;
    }

    /** An object to which a text without fault has been told. */
    static Run of(Due due, String sentence, String text) {
        Run run = new Run(due, sentence).typed(text);
        due.holds(sentence + ": '" + text + "' can be read", run.ask("valley") >= 0);
        return run;
    }

    private static Map<String, Method> face() {
        Map<String, Method> all = new TreeMap<>();
        for (Method method : FacingFields.class.getDeclaredMethods()) {
            if (Modifier.isPublic(method.getModifiers())) {
                all.put(method.getName(), method);
            }
        }
        return all;
    }

    Run typed(String text) {
        for (int i = 0; i < text.length(); i++) {
            ask("type " + (int) text.charAt(i));
        }
        return this;
    }

    /** The call again and again, whatever it answers. */
    Run times(int n, String call) {
        for (int i = 0; i < n; i++) {
            ask(call);
        }
        return this;
    }

    Run is(String call, long want) {
        due.is(sentence + ": call " + (calls + 1) + ", " + call, ask(call), want);
        return this;
    }

    /** The same call for man 0, 1, ..: "man # 4" asks whom each one opposes. */
    Run each(String call, long... want) {
        for (int m = 0; m < want.length; m++) {
            is(call.replace("#", Integer.toString(m)), want[m]);
        }
        return this;
    }

    long ask(String call) {
        calls++;
        if (calls > CALLS_MOST) {
            due.holds(sentence + ": " + call + " is beyond 512 calls", false);
        }
        String[] words = call.split(" ");
        Object[] numbers = new Object[words.length - 1];
        for (int i = 0; i < numbers.length; i++) {
            numbers[i] = Integer.parseInt(words[i + 1]);
        }
        try {
            return ((Number) FACE.get(words[0]).invoke(x, numbers)).longValue();
        } catch (InvocationTargetException e) {
            due.holds(sentence + ": " + call + " threw " + e.getCause(), false);
            return THREW;
        } catch (IllegalAccessException e) {
            throw new IllegalStateException(e);
        }
    }
}
