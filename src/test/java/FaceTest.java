import java.lang.reflect.Constructor;
import java.lang.reflect.Field;
import java.lang.reflect.Method;
import java.lang.reflect.Modifier;
import java.util.Arrays;
import java.util.TreeSet;

/** The class shows the document's face and nothing else, and keeps no static state that can change. */
public final class FaceTest {
    private static final String[] FACE = {
        "boolean widen(int, int) throws IndexOutOfBoundsException, IllegalArgumentException",
        "int width(int) throws IndexOutOfBoundsException",
        "boolean set(int, long) throws IndexOutOfBoundsException",
        "int put(int, int, int) throws IndexOutOfBoundsException",
        "int limb(int, int) throws IndexOutOfBoundsException",
        "boolean copy(int, int) throws IndexOutOfBoundsException",
        "int add(int, int) throws IndexOutOfBoundsException",
        "int subtract(int, int) throws IndexOutOfBoundsException",
        "int addProduct(int, int, int) throws IndexOutOfBoundsException, IllegalArgumentException",
        "int subtractProduct(int, int, int) throws IndexOutOfBoundsException, IllegalArgumentException",
        "int times(int, long) throws IndexOutOfBoundsException",
        "boolean negate(int) throws IndexOutOfBoundsException",
        "int left(int, int) throws IndexOutOfBoundsException, IllegalArgumentException",
        "int right(int, int) throws IndexOutOfBoundsException, IllegalArgumentException",
        "int nearest(int, int) throws IndexOutOfBoundsException, IllegalArgumentException",
        "long divide(int, long) throws IndexOutOfBoundsException, IllegalArgumentException",
        "int zeros(int) throws IndexOutOfBoundsException",
        "int length(int) throws IndexOutOfBoundsException",
        "int sign(int) throws IndexOutOfBoundsException",
        "int compare(int, int) throws IndexOutOfBoundsException",
    };

    private FaceTest() {
    }

    public static void main(String[] args) {
        Checks.due("public and final", Modifier.toString(LimbRows.class.getModifiers()), "public final");
        methods();
        constructors();
        fields(LimbRows.class);
        classesInside();
        Checks.finish();
    }

    private static void methods() {
        TreeSet<String> shown = new TreeSet<>();
        TreeSet<String> publicNames = new TreeSet<>();
        for (Method m : LimbRows.class.getDeclaredMethods()) {
            if (!Modifier.isPrivate(m.getModifiers()) && !m.isSynthetic()) {
                Checks.due(m.getName() + " is", Modifier.toString(m.getModifiers()), "public");
                shown.add(described(m));
                publicNames.add(m.getName());
            }
        }
        Checks.due("the methods", shown, new TreeSet<>(Arrays.asList(FACE)));
        privateNames(LimbRows.class, publicNames);
        for (Class<?> inside : LimbRows.class.getDeclaredClasses()) {
            privateNames(inside, publicNames);
        }
    }

    private static void privateNames(Class<?> type, TreeSet<String> publicNames) {
        for (Method m : type.getDeclaredMethods()) {
            if (Modifier.isPrivate(m.getModifiers())) {
                Checks.due("a private " + m.getName() + " bears a public one's name",
                    publicNames.contains(m.getName()), false);
            }
        }
    }

    private static String described(Method m) {
        return m.getReturnType() + " " + m.getName() + "(" + names(m.getParameterTypes()) + ") throws "
            + names(m.getExceptionTypes());
    }

    private static String names(Class<?>[] types) {
        return String.join(", ", Arrays.stream(types).map(Class::getSimpleName).toList());
    }

    private static void constructors() {
        Constructor<?>[] all = LimbRows.class.getDeclaredConstructors();
        Checks.due("the number of constructors", all.length, 1);
        Checks.due("the constructor", all[0].toString(), "public LimbRows()");
    }

    private static void fields(Class<?> type) {
        for (Field f : type.getDeclaredFields()) {
            if (f.isSynthetic()) {
                continue;
            }
            Checks.due(f + " is private", Modifier.isPrivate(f.getModifiers()), true);
            if (Modifier.isStatic(f.getModifiers())) {
                Checks.due(f + " is final", Modifier.isFinal(f.getModifiers()), true);
            }
        }
    }

    private static void classesInside() {
        for (Class<?> inside : LimbRows.class.getDeclaredClasses()) {
            int modifiers = inside.getModifiers();
            Checks.due(inside + " is static", Modifier.isStatic(modifiers), true);
            Checks.due(inside + " is hidden", Modifier.isPublic(modifiers) || Modifier.isProtected(modifiers), false);
            fields(inside);
        }
    }
}
