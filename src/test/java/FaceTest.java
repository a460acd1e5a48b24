import java.lang.reflect.Constructor;
import java.lang.reflect.Field;
import java.lang.reflect.Method;
import java.lang.reflect.Modifier;
import java.util.Set;
import java.util.TreeSet;

/** The class has the document's face, and no member beside it that others could use. */
public final class FaceTest {
    private static final Set<String> FACE = Set.of(
            "int code(int, byte) throws IllegalArgumentException IndexOutOfBoundsException",
            "void clear(int) throws IllegalArgumentException",
            "int good(int) throws IllegalArgumentException",
            "void start(int, int, int) throws IllegalArgumentException IllegalStateException",
            "int step(int) throws IllegalStateException IllegalArgumentException",
            "int look(int) throws IllegalArgumentException",
            "int state(int) throws IllegalArgumentException",
            "int out(int) throws IndexOutOfBoundsException",
            "int local(int, int)");

    public static void main(String[] args) {
        Checks checks = new Checks("FaceTest");
        checks.same("public and final", SegmentDesk.class.getModifiers(), Modifier.PUBLIC | Modifier.FINAL);
        checkMethods(checks);
        checkConstructors(checks);
        for (Field field : SegmentDesk.class.getDeclaredFields()) {
            checks.same("private: " + field, Modifier.isPrivate(field.getModifiers()) ? 1 : 0, 1);
        }
        for (Class<?> inside : SegmentDesk.class.getDeclaredClasses()) {
            checkInside(checks, inside);
        }
        checks.finish();
    }

    private static void checkMethods(Checks checks) {
        Set<String> seen = new TreeSet<>();
        for (Method method : SegmentDesk.class.getDeclaredMethods()) {
            if (!Modifier.isPrivate(method.getModifiers())) {
                checks.same("public alone: " + method, method.getModifiers(), Modifier.PUBLIC);
                seen.add(signature(method));
            }
            checkName(checks, method);
        }
        checks.same("the face is " + FACE + ", seen " + seen, seen.equals(FACE) ? 1 : 0, 1);
    }

    private static String signature(Method method) {
        StringBuilder text = new StringBuilder();
        text.append(method.getReturnType().getName()).append(' ').append(method.getName()).append('(');
        for (Class<?> type : method.getParameterTypes()) {
            text.append(text.charAt(text.length() - 1) == '(' ? "" : ", ").append(type.getName());
        }
        text.append(')').append(method.getExceptionTypes().length > 0 ? " throws" : "");
        for (Class<?> type : method.getExceptionTypes()) {
            text.append(' ').append(type.getSimpleName());
        }
        return text.toString();
    }

    private static void checkConstructors(Checks checks) {
        Constructor<?>[] all = SegmentDesk.class.getDeclaredConstructors();
        checks.same("constructors", all.length, 1);
        checks.same("its parameters", all[0].getParameterCount(), 0);
        checks.same("it is public", all[0].getModifiers(), Modifier.PUBLIC);
    }

    private static void checkInside(Checks checks, Class<?> inside) {
        int modifiers = inside.getModifiers();
        boolean hidden = !Modifier.isPublic(modifiers) && !Modifier.isProtected(modifiers);
        checks.same("hidden: " + inside, hidden ? 1 : 0, 1);
        for (Method method : inside.getDeclaredMethods()) {
            checkName(checks, method);
        }
    }

    /** LANGUAGE.md, rule 1. */
    private static void checkName(Checks checks, Method method) {
        if (Modifier.isPrivate(method.getModifiers())) {
            boolean ofFace = FACE.stream().anyMatch(text -> text.contains(" " + method.getName() + "("));
            checks.same("a private method without a name of the face: " + method, ofFace ? 1 : 0, 0);
        }
    }
}
