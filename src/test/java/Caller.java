import java.lang.reflect.InvocationTargetException;
import java.lang.reflect.Method;
import java.util.HashMap;
import java.util.Map;

/** One object and the calls that it has left; a call is written as its name and its arguments: "addShot 0 5 MAX". */
final class Caller {
    static final int MOST_CALLS = 512;

    private static final Map<Class<?>, Map<String, Method>> METHODS = new HashMap<>();

    private final Object target;
    private int callsLeft = MOST_CALLS;

    Caller(Object target) {
        this.target = target;
    }

    Object target() {
        return target;
    }

    int callsLeft() {
        return callsLeft;
    }

    static boolean isThrown(String answer) {
        return answer.startsWith("throws.");
    }

    /** The answer as a text; a thrown exception is told by its exact class. */
    String answer(String call) {
        if (callsLeft == 0) {
            throw new AssertionError("what a call after the 512th answers is free: " + call);
        }
        callsLeft--;
        String[] words = call.split(" ");
        Object[] args = new Object[words.length - 1];
        for (int i = 0; i < args.length; i++) {
            args[i] = argument(words[i + 1]);
        }
        try {
            return String.valueOf(method(words[0]).invoke(target, args));
        } catch (InvocationTargetException e) {
            return "throws." + e.getCause().getClass().getSimpleName() + origin(e.getCause());
        } catch (IllegalAccessException e) {
            throw new AssertionError(e);
        }
    }

    private static Object argument(String word) {
        switch (word) {
            case "true": return true;
            case "false": return false;
            case "MIN": return Integer.MIN_VALUE;
            case "MAX": return Integer.MAX_VALUE;
            default: return Integer.valueOf(word);
        }
    }

    private Method method(String name) {
        Map<String, Method> known = METHODS.computeIfAbsent(target.getClass(), Caller::methodsOf);
        if (!known.containsKey(name)) {
            throw new AssertionError("no method " + name);
        }
        return known.get(name);
    }

    private static Map<String, Method> methodsOf(Class<?> type) {
        Map<String, Method> all = new HashMap<>();
        for (Method method : type.getDeclaredMethods()) {
            all.put(method.getName(), method);
        }
        return all;
    }

    /** Empty if a throw statement of the target's own code threw it, and not the machine or the library. */
    private String origin(Throwable thrown) {
        StackTraceElement[] trace = thrown.getStackTrace();
        boolean isOwn = trace.length > 0 && trace[0].getClassName().startsWith(target.getClass().getName());
        return isOwn ? "" : " (not by its own throw)";
    }
}
