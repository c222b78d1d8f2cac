import java.lang.reflect.Field;
import java.util.List;

/** Reaches into an object, for states that no call can bring about. */
final class Inside {
    private Inside() {
    }

    static Object get(Object holder, String name) throws ReflectiveOperationException {
        return field(holder, name).get(holder);
    }

    static Object get(Object holder, String list, int index) throws ReflectiveOperationException {
        return ((List<?>) get(holder, list)).get(index);
    }

    static void set(Object holder, String name, Object value) throws ReflectiveOperationException {
        field(holder, name).set(holder, value);
    }

    private static Field field(Object holder, String name) throws ReflectiveOperationException {
        Field field = holder.getClass().getDeclaredField(name);
        field.setAccessible(true);
        return field;
    }
}
