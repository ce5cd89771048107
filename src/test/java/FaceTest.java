import java.lang.reflect.Constructor;
import java.lang.reflect.Field;
import java.lang.reflect.Method;
import java.lang.reflect.Modifier;
import java.util.Set;
import java.util.TreeSet;

/** The public face is the document's, and nothing else of the class is to be seen. */
public final class FaceTest {
    private static final String ARGUMENT = "IllegalArgumentException ";
    private static final String STATE = "IllegalStateException ";

    public static void main(String[] args) {
        Check check = new Check("FaceTest");
        int modifiers = WayWatcher.class.getModifiers();
        check.isTrue("public and final", Modifier.isPublic(modifiers) && Modifier.isFinal(modifiers));
        check.text("methods", seenMethods().toString(), dueMethods().toString());
        Constructor<?>[] constructors = WayWatcher.class.getDeclaredConstructors();
        check.equal("constructors", constructors.length, 1);
        check.text("constructor", constructors[0].toString(), "public WayWatcher()");
        for (Field field : WayWatcher.class.getDeclaredFields()) {
            check.isTrue(field + " is private", Modifier.isPrivate(field.getModifiers()));
        }
        for (Class<?> inside : WayWatcher.class.getDeclaredClasses()) {
            check.isTrue(inside + " is static", Modifier.isStatic(inside.getModifiers()));
            check.isTrue(inside + " is not public", !Modifier.isPublic(inside.getModifiers()));
        }
        check.end();
    }

    private static Set<String> dueMethods() {
        return new TreeSet<>(Set.of(
                "public int move(int int int int int ) " + ARGUMENT + STATE,
                "public long followers(int ) " + ARGUMENT,
                "public int formula(int int int ) " + ARGUMENT + STATE,
                "public int fair(int ) " + ARGUMENT + STATE,
                "public void unfair() ",
                "public long states(int ) " + ARGUMENT,
                "public long begins() ",
                "public int show(int int ) " + ARGUMENT + STATE + "UnsupportedOperationException ",
                "public int shown(int ) IndexOutOfBoundsException ",
                "public int loop() "));
    }

    private static Set<String> seenMethods() {
        Set<String> seen = new TreeSet<>();
        for (Method method : WayWatcher.class.getDeclaredMethods()) {
            if (!Modifier.isPrivate(method.getModifiers()) && !method.isSynthetic()) {
                seen.add(Modifier.toString(method.getModifiers()) + " "
                        + method.getReturnType().getSimpleName() + " " + method.getName()
                        + "(" + names(method.getParameterTypes()) + ") "
                        + names(method.getExceptionTypes()));
            }
        }
        return seen;
    }

    private static String names(Class<?>[] types) {
        StringBuilder text = new StringBuilder();
        for (Class<?> type : types) {
            text.append(type.getSimpleName()).append(' ');
        }
        return text.toString();
    }
}
