import java.lang.reflect.InvocationTargetException;
import java.lang.reflect.Method;
import java.util.Arrays;

/** What the tests share: calls by name, answers as texts, and the count of wrong ones. */
final class Check {
    static final Object[] EVERY_FILM = {0, 1, 2, 3, 4, 5};

    private final String title;
    private int checks = 0;
    private int wrong = 0;

    Check(String title) {
        this.title = title;
    }

    /** The answer of a call as a text; a thrown exception is told by its exact class. */
    static String answer(Object room, String name, Object... args) {
        for (Method method : room.getClass().getDeclaredMethods()) {
            if (method.getName().equals(name)) {
                return invoke(room, method, args);
            }
        }
        throw new AssertionError("no method " + name);
    }

    private static String invoke(Object room, Method method, Object... args) {
        try {
            return String.valueOf(method.invoke(room, args));
        } catch (InvocationTargetException e) {
            return "throws." + e.getCause().getClass().getSimpleName() + origin(room, e.getCause());
        } catch (IllegalAccessException e) {
            throw new AssertionError(e);
        }
    }

    /** Empty if a throw statement of the room's own code threw it, and not the machine or the library. */
    private static String origin(Object room, Throwable thrown) {
        StackTraceElement[] trace = thrown.getStackTrace();
        boolean isOwn = trace.length > 0 && trace[0].getClassName().startsWith(room.getClass().getName());
        return isOwn ? "" : " (not by the room's own throw)";
    }

    void due(Object room, Object want, String name, Object... args) {
        same(name + Arrays.toString(args), answer(room, name, args), String.valueOf(want));
    }

    /** The call throws the exception of this short name, and nothing that can be asked changes. */
    void refused(Object room, String exception, String name, Object... args) {
        String before = state(room);
        due(room, "throws." + longName(exception), name, args);
        same("state behind " + name + Arrays.toString(args), state(room), before);
    }

    void same(String what, String got, String want) {
        checks++;
        if (!got.equals(want)) {
            wrong++;
            System.out.println(title + ": " + what + " answered " + got + ", due is " + want);
        }
    }

    void end() {
        System.out.println(title + ": " + checks + " checks, " + wrong + " wrong");
        if (wrong != 0 || checks == 0) {
            System.exit(1);
        }
    }

    private static String longName(String exception) {
        switch (exception) {
            case "index": return "IndexOutOfBoundsException";
            case "argument": return "IllegalArgumentException";
            case "state": return "IllegalStateException";
            case "unsupported": return "UnsupportedOperationException";
            case "element": return "NoSuchElementException";
            case "arithmetic": return "ArithmeticException";
            default: throw new AssertionError(exception);
        }
    }

    /** All that can be asked without a change, as one text. */
    static String state(Object room) {
        StringBuilder all = new StringBuilder();
        for (Object film : EVERY_FILM) {
            all.append("film ").append(answer(room, "shots", film)).append(':');
            list(all, room, "shotOf", film);
        }
        for (int shot = 0; !answer(room, "lengthOf", shot).startsWith("throws."); shot++) {
            all.append("shot ").append(shot);
            for (String name : new String[] {"lengthOf", "frameOf", "reelOf", "scanned", "missed", "gradeOf", "gradeFrom"}) {
                all.append(' ').append(answer(room, name, shot));
            }
        }
        for (int reel = 0; reel < 24; reel++) {
            all.append("reel ").append(reel).append(':');
            list(all, room, "wear", reel);
        }
        all.append("versions ");
        list(all, room, "frames");
        all.append("limit ").append(limitOf(room));
        for (String name : new String[] {"shown", "keptShare", "meanWear", "isSound"}) {
            all.append(' ').append(answer(room, name));
        }
        return all.toString();
    }

    private static void list(StringBuilder all, Object room, String name, Object... first) {
        Object[] args = Arrays.copyOf(first, first.length + 1);
        for (int i = 0;; i++) {
            args[first.length] = i;
            String answer = answer(room, name, args);
            if (answer.startsWith("throws.")) {
                all.append(answer).append('\n');
                return;
            }
            all.append(' ').append(answer);
        }
    }

    /** Asks the limit by setting it, and sets it back: the least one that is taken tells it. */
    private static int limitOf(Object room) {
        for (int tried = 2; tried <= 50; tried++) {
            String before = answer(room, "setLimit", tried);
            if (!before.startsWith("throws.")) {
                answer(room, "setLimit", Integer.parseInt(before));
                return Integer.parseInt(before);
            }
        }
        throw new AssertionError("no limit is taken");
    }
}
