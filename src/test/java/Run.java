import java.lang.reflect.InvocationTargetException;
import java.lang.reflect.Method;
import java.util.HashMap;
import java.util.Map;

/**
 * A new object, called by the words of a call, as "hang(0, 9)" ("min" and "max" are the ends of an int).
 * It counts its calls, since the document promises the first 512 of an object alone.
 */
final class Run {
    static final int NONE = -1000000, BAD = -1000001, STATE = -1000002, FULL = -1000003;
    static final int NULL = -1000011, PLACE = -1000012, KIND = -1000013, SIZE = -1000014, STORE = -1000015;
    private static final int PROMISED = 512;
    private static final Map<String, Method> FACE = face();

    private final VineLaws laws = new VineLaws();
    private int calls;

    /** What no call may do; nor may a test call more often than the document promises answers. */
    static final class Threw extends RuntimeException {
        private static final long serialVersionUID = 1;

        Threw(String message, Throwable cause) {
            super(message, cause);
        }
    }

    private static Map<String, Method> face() {
        Map<String, Method> face = new HashMap<>();
        for (Method method : VineLaws.class.getDeclaredMethods()) {
            face.put(method.getName(), method);
        }
        return face;
    }

    /** A new object that has read a square. */
    static Run told(String text) {
        Run run = new Run();
        long leaves = run.read(text);
        Check.due("square() of " + text, leaves >= 1 ? 1 : leaves, 1);
        return run;
    }

    int calls() {
        return calls;
    }

    long call(String words) {
        calls++;
        if (calls > PROMISED) {
            throw new Threw(words + " is call " + calls + ": what it answers is free", null);
        }
        int open = words.indexOf('(');
        try {
            return ((Number) FACE.get(words.substring(0, open)).invoke(laws, numbers(words, open + 1))).longValue();
        } catch (InvocationTargetException e) {
            throw new Threw(words + " threw " + e.getCause(), e);
        } catch (IllegalAccessException e) {
            throw new IllegalStateException(words, e);
        }
    }

    private static Object[] numbers(String words, int from) {
        String inside = words.substring(from, words.length() - 1);
        if (inside.isEmpty()) {
            return new Object[0];
        }
        String[] told = inside.split(", ");
        Object[] numbers = new Object[told.length];
        for (int i = 0; i < told.length; i++) {
            numbers[i] = told[i].equals("min") ? Integer.MIN_VALUE
                : told[i].equals("max") ? Integer.MAX_VALUE : Integer.parseInt(told[i]);
        }
        return numbers;
    }

    /** Calls whose answers are tested elsewhere. */
    Run does(String... words) {
        for (String one : words) {
            call(one);
        }
        return this;
    }

    Run due(String words, long want) {
        Check.due("call " + (calls + 1) + ", " + words, call(words), want);
        return this;
    }

    /** Several calls that are to answer alike. */
    Run all(long want, String... words) {
        for (String one : words) {
            due(one, want);
        }
        return this;
    }

    Run feed(String text) {
        for (int i = 0; i < text.length(); i++) {
            call("feed(" + (int) text.charAt(i) + ")");
        }
        return this;
    }

    long read(String text) {
        return feed(text).call("square()");
    }

    /** A row of a lane that holds these items. */
    Run row(int row, int lane, int... items) {
        call("row(" + row + ", " + lane + ", " + items.length + ")");
        for (int i = 0; i < items.length; i++) {
            call("set(" + row + ", " + i + ", " + items[i] + ")");
        }
        return this;
    }
}
