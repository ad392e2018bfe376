import java.lang.reflect.Constructor;
import java.lang.reflect.Field;
import java.lang.reflect.Method;
import java.lang.reflect.Modifier;
import java.util.Arrays;
import java.util.Set;
import java.util.TreeSet;

/** The public face: just the constants, the constructor and the methods of the document. */
public final class FaceTest {
    private static final Checks CHECKS = new Checks();

    public static void main(String[] arguments) throws IllegalAccessException {
        Class<PileRecount> face = PileRecount.class;
        CHECKS.due("the class is public and final", face.getModifiers(), Modifier.PUBLIC | Modifier.FINAL);
        constants(face);
        constructors(face);
        methods(face);
        inner(face);
        CHECKS.end("FaceTest");
    }

    private static void constants(Class<?> face) throws IllegalAccessException {
        Set<String> names = new TreeSet<>();
        for (Field field : face.getDeclaredFields()) {
            if (field.isSynthetic()) {
                continue;
            }
            int modifiers = field.getModifiers();
            boolean isConstant = Modifier.isStatic(modifiers) && Modifier.isFinal(modifiers);
            if (Modifier.isPublic(modifiers) && isConstant) {
                names.add(field.getName() + " " + field.getInt(null));
            } else {
                CHECKS.due(field + " is private", Modifier.isPrivate(modifiers), true);
            }
        }
        CHECKS.due("the constants", names, new TreeSet<>(Arrays.asList("NO_SUCH -1", "BAD_VALUE -2",
            "BAD_TEXT -3", "TOO_MANY -4", "NOT_POSSIBLE -5", "NONE -6")));
    }

    private static void constructors(Class<?> face) {
        Constructor<?>[] constructors = face.getDeclaredConstructors();
        CHECKS.due("one constructor", constructors.length, 1);
        CHECKS.due("it is public", constructors[0].getModifiers(), Modifier.PUBLIC);
        CHECKS.due("it has no parameter", constructors[0].getParameterCount(), 0);
    }

    private static void methods(Class<?> face) {
        Set<String> open = new TreeSet<>();
        Set<String> hidden = new TreeSet<>();
        Set<String> names = new TreeSet<>();
        for (Method method : face.getDeclaredMethods()) {
            if (method.isSynthetic()) {
                continue;
            }
            if (Modifier.isPublic(method.getModifiers())) {
                names.add(method.getName());
                open.add(method.getName() + Arrays.toString(method.getParameterTypes()));
                CHECKS.due(method + " is of an object", Modifier.isStatic(method.getModifiers()), false);
                CHECKS.due(method + " returns", method.getReturnType(), int.class);
            } else {
                hidden.add(method.getName());
                CHECKS.due(method + " is private", Modifier.isPrivate(method.getModifiers()), true);
            }
        }
        hidden.retainAll(names);
        CHECKS.due("private methods with a public name", hidden, new TreeSet<String>());
        CHECKS.due("the methods", open, new TreeSet<>(Arrays.asList("pile[int, int, int]",
            "finds[int, int, int]", "limit[int]", "seed[int]", "draw[]", "count[int]", "finish[]", "stop[]",
            "ofPile[int, int]", "state[int]", "counted[int]", "riskOf[int, int, int]", "atLeast[]",
            "orders[int]", "wrongOrders[]", "suspects[]", "put[long]", "wipe[]", "fault[]", "make[]",
            "undo[]", "save[int]", "restore[int]")));
    }

    private static void inner(Class<?> face) {
        for (Class<?> inner : face.getDeclaredClasses()) {
            int modifiers = inner.getModifiers();
            CHECKS.due(inner + " is static", Modifier.isStatic(modifiers), true);
            CHECKS.due(inner + " is not public", Modifier.isPublic(modifiers), false);
        }
    }
}
