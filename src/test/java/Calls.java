import java.lang.reflect.InvocationTargetException;
import java.lang.reflect.Method;
import java.util.HashMap;
import java.util.Map;

/** Calls written as texts ("issue 0 1 100"), so that a run of them can be made again on another object. */
final class Calls {
    /** Stands for an IndexOutOfBoundsException: no call of the face answers this number. */
    static final int THROWS = Integer.MIN_VALUE;

    private static final Map<Class<?>, Map<String, Method>> METHODS = new HashMap<>();

    private Calls() {
    }

    static int make(Object on, String call) {
        String[] parts = call.split(" ");
        Object[] numbers = new Object[parts.length - 1];
        for (int i = 0; i < numbers.length; i++) {
            numbers[i] = Integer.valueOf(parts[i + 1]);
        }
        try {
            return (Integer) method(on.getClass(), parts[0]).invoke(on, numbers);
        } catch (InvocationTargetException e) {
            // The machine throws subclasses of it, which the program must never let happen.
            if (e.getCause().getClass() == IndexOutOfBoundsException.class) {
                return THROWS;
            }
            throw new IllegalStateException(call + " let the machine throw", e.getCause());
        } catch (IllegalAccessException e) {
            throw new IllegalStateException(call, e);
        }
    }

    static String name(int answer) {
        switch (answer) {
            case THROWS:
                return "IndexOutOfBoundsException";
            case IssueRows.NONE:
                return "NONE (-1)";
            case IssueRows.RANGE:
                return "RANGE";
            case IssueRows.STATE:
                return "STATE";
            case IssueRows.FULL:
                return "FULL";
            default:
                return Integer.toString(answer);
        }
    }

    private static Method method(Class<?> type, String name) {
        return METHODS.computeIfAbsent(type, Calls::methodsOf).get(name);
    }

    private static Map<String, Method> methodsOf(Class<?> type) {
        Map<String, Method> found = new HashMap<>();
        for (Method method : type.getDeclaredMethods()) {
            found.put(method.getName(), method);
        }
        return found;
    }
}
