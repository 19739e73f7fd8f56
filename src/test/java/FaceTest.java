import java.lang.reflect.Constructor;
import java.lang.reflect.Field;
import java.lang.reflect.Method;
import java.lang.reflect.Modifier;
import java.util.Arrays;
import java.util.HashSet;
import java.util.List;
import java.util.Set;
import java.util.TreeSet;
import java.util.stream.Collectors;

/** The public face of the document, and rules 1, 5 and 11 of LANGUAGE.md as far as they show outside. */
public final class FaceTest {
    private static final Checks CHECKS = new Checks();
    private static final List<String> METHODS = List.of(
            "add int(int, int, int, int, int) throws IllegalArgumentException, IllegalStateException",
            "at int(int) throws IndexOutOfBoundsException",
            "breaks int(int) throws IndexOutOfBoundsException",
            "clear int() throws ",
            "count int(int) throws ",
            "fit int(int, int) throws IndexOutOfBoundsException, IllegalArgumentException",
            "kind int(int) throws IndexOutOfBoundsException",
            "loose boolean(boolean) throws ",
            "mark void(int, int, int, boolean) throws IllegalArgumentException, IllegalStateException",
            "next int(int) throws IndexOutOfBoundsException",
            "property void(int, int, int) throws IllegalArgumentException, IllegalStateException",
            "replace int(int, int, int, int, int) throws IndexOutOfBoundsException,"
                    + " IllegalArgumentException, IllegalStateException",
            "rule int(int) throws IndexOutOfBoundsException");

    public static void main(String[] args) {
        Class<?> face = BreakPlaces.class;
        CHECKS.same("the class is public and final", face.getModifiers(), Modifier.PUBLIC | Modifier.FINAL);
        checkMethods(face);
        checkFields(face);
        checkConstructors(face);
        checkClassesInside(face);
        CHECKS.finish();
    }

    private static String names(Class<?>[] types) {
        return Arrays.stream(types).map(Class::getSimpleName).collect(Collectors.joining(", "));
    }

    private static void checkMethods(Class<?> face) {
        Set<String> open = new TreeSet<>();
        Set<String> openNames = new HashSet<>();
        for (Method m : face.getDeclaredMethods()) {
            if (!Modifier.isPrivate(m.getModifiers())) {
                openNames.add(m.getName());
                open.add(m.getName() + " " + m.getReturnType().getSimpleName() + "("
                        + names(m.getParameterTypes()) + ") throws " + names(m.getExceptionTypes()));
                CHECKS.same(m + " is public alone", m.getModifiers(), Modifier.PUBLIC);
            }
        }
        CHECKS.sameText("the methods", open.toString(), METHODS.toString());
        for (Method m : face.getDeclaredMethods()) {
            CHECKS.same(m + " takes at most seven", m.getParameterCount() <= 7, true);
            CHECKS.same(m + " bears a public name",
                    Modifier.isPrivate(m.getModifiers()) && openNames.contains(m.getName()), false);
        }
    }

    private static void checkFields(Class<?> face) {
        Set<String> open = new TreeSet<>();
        for (Field f : face.getDeclaredFields()) {
            int m = f.getModifiers();
            if (!Modifier.isPrivate(m)) {
                open.add(f.getName());
                CHECKS.same(f + " is a constant", m, Modifier.PUBLIC | Modifier.STATIC | Modifier.FINAL);
            }
            CHECKS.same(f + " is final if static", !Modifier.isStatic(m) || Modifier.isFinal(m), true);
        }
        CHECKS.sameText("the constants", open.toString(), "[FORBIDDEN, MAY, MUST, NONE]");
    }

    private static void checkConstructors(Class<?> face) {
        Constructor<?>[] all = face.getDeclaredConstructors();
        CHECKS.same("constructors", all.length, 1);
        CHECKS.same("the constructor is public", all[0].getModifiers(), Modifier.PUBLIC);
        CHECKS.same("the constructor takes nothing", all[0].getParameterCount(), 0);
    }

    private static void checkClassesInside(Class<?> face) {
        int hidden = Modifier.PUBLIC | Modifier.PROTECTED;
        for (Class<?> inside : face.getDeclaredClasses()) {
            CHECKS.same(inside + " is static", Modifier.isStatic(inside.getModifiers()), true);
            CHECKS.same(inside + " is not seen outside", inside.getModifiers() & hidden, 0);
        }
    }
}
