import java.lang.reflect.Constructor;
import java.lang.reflect.Field;
import java.lang.reflect.Method;
import java.lang.reflect.Modifier;
import java.util.TreeSet;

/** The face: what is public is what the document lists, with its exceptions, and no more. */
public final class FaceTest {
    private static final String[] FACE = {
        "int addFilm() IllegalStateException",
        "int addShot(int int int) IndexOutOfBoundsException IllegalArgumentException IllegalStateException",
        "int addReel(int) IndexOutOfBoundsException IllegalStateException",
        "int put(int int) IndexOutOfBoundsException IllegalArgumentException UnsupportedOperationException",
        "int found(int int int int) IndexOutOfBoundsException IllegalArgumentException UnsupportedOperationException"
            + " IllegalStateException",
        "int join(int int) IndexOutOfBoundsException IllegalArgumentException UnsupportedOperationException",
        "int shots(int) IndexOutOfBoundsException",
        "int shotOf(int int) IndexOutOfBoundsException",
        "int lengthOf(int) IndexOutOfBoundsException",
        "int frameOf(int) IndexOutOfBoundsException NoSuchElementException",
        "int shotAt(int int) IndexOutOfBoundsException NoSuchElementException",
        "int reelOf(int) IndexOutOfBoundsException",
        "int setLimit(int) IllegalArgumentException UnsupportedOperationException",
        "int run(int) IndexOutOfBoundsException UnsupportedOperationException",
        "int wear(int int) IndexOutOfBoundsException",
        "int mend(int int) IndexOutOfBoundsException UnsupportedOperationException",
        "int scan(int int) IndexOutOfBoundsException IllegalArgumentException UnsupportedOperationException",
        "int scanned(int) IndexOutOfBoundsException",
        "int missed(int) IndexOutOfBoundsException",
        "int grade(int int) IndexOutOfBoundsException IllegalArgumentException UnsupportedOperationException",
        "int passOn(int) IndexOutOfBoundsException UnsupportedOperationException",
        "int gradeOf(int) IndexOutOfBoundsException",
        "int gradeFrom(int) IndexOutOfBoundsException",
        "int addVersion(int int) IndexOutOfBoundsException IllegalArgumentException UnsupportedOperationException"
            + " IllegalStateException",
        "int leaveOut(int int int boolean) IndexOutOfBoundsException IllegalArgumentException",
        "int frames(int) IndexOutOfBoundsException",
        "int lend(int int int int) IndexOutOfBoundsException IllegalArgumentException UnsupportedOperationException"
            + " IllegalStateException",
        "int show(int) IndexOutOfBoundsException UnsupportedOperationException",
        "int giveBack(int) IndexOutOfBoundsException UnsupportedOperationException",
        "int advance(int) IllegalArgumentException",
        "long shown()",
        "float keptShare() ArithmeticException",
        "double meanWear() ArithmeticException",
        "boolean isSound()",
    };

    public static void main(String[] args) {
        Check check = new Check("face");
        TreeSet<String> want = new TreeSet<>();
        for (String method : FACE) {
            want.add("public " + method);
        }
        TreeSet<String> got = new TreeSet<>();
        for (Method method : Spliceroom.class.getDeclaredMethods()) {
            if (!Modifier.isPrivate(method.getModifiers())) {
                got.add(told(method));
            }
        }
        for (String method : want) {
            check.same("has " + method, String.valueOf(got.contains(method)), "true");
        }
        for (String method : got) {
            check.same("lists " + method, String.valueOf(want.contains(method)), "true");
        }
        for (Field field : Spliceroom.class.getDeclaredFields()) {
            check.same(field.getName() + " is private",
                    String.valueOf(Modifier.isPrivate(field.getModifiers())), "true");
        }
        Constructor<?>[] all = Spliceroom.class.getDeclaredConstructors();
        check.same("constructors", all.length + " " + all[0].toGenericString(), "1 public Spliceroom()");
        check.same("class", Modifier.toString(Spliceroom.class.getModifiers()), "public final");
        for (Class<?> inside : Spliceroom.class.getDeclaredClasses()) {
            int modifiers = inside.getModifiers();
            check.same(inside.getSimpleName() + " is static and not of the face",
                    String.valueOf(Modifier.isStatic(modifiers)
                    && !Modifier.isPublic(modifiers) && !Modifier.isProtected(modifiers)), "true");
        }
        privateNames(check);
        check.end();
    }

    /** No private method bears the name of a public one. */
    private static void privateNames(Check check) {
        TreeSet<String> names = new TreeSet<>();
        for (Method method : Spliceroom.class.getDeclaredMethods()) {
            if (Modifier.isPublic(method.getModifiers())) {
                names.add(method.getName());
            }
        }
        for (Method method : Spliceroom.class.getDeclaredMethods()) {
            if (Modifier.isPrivate(method.getModifiers())) {
                check.same(method.getName() + " is a public name", String.valueOf(names.contains(method.getName())),
                        "false");
            }
        }
    }

    private static String told(Method method) {
        StringBuilder text = new StringBuilder(Modifier.toString(method.getModifiers()));
        text.append(' ').append(method.getReturnType()).append(' ').append(method.getName()).append('(');
        for (int i = 0; i < method.getParameterCount(); i++) {
            text.append(i == 0 ? "" : " ").append(method.getParameterTypes()[i]);
        }
        text.append(')');
        for (Class<?> exception : method.getExceptionTypes()) {
            text.append(' ').append(exception.getSimpleName());
        }
        return text.toString();
    }
}
