import java.lang.reflect.Constructor;
import java.lang.reflect.Field;
import java.lang.reflect.Method;
import java.lang.reflect.Modifier;
import java.util.Arrays;
import java.util.Set;
import java.util.TreeSet;

/** The public face: the document's constants, constructor and methods, and no other visible member. */
final class FaceTest {
    private static final String INDEX = "IndexOutOfBoundsException";
    private static final String ARGUMENT = "IllegalArgumentException";
    private static final String STATE = "IllegalStateException";

    public static void main(String[] args) {
        constants();
        Check.that(Modifier.isFinal(ShopDesks.class.getModifiers()), "the class is not final");
        Check.that(Modifier.isPublic(ShopDesks.class.getModifiers()), "the class is not public");
        Check.that(due().equals(found()), "the members are " + found() + ", due are " + due());
        Check.end();
    }

    private static void constants() {
        Check.is(-1, ShopDesks.NONE);
        Check.is(0, ShopDesks.COUNT);
        Check.is(1, ShopDesks.PLACE);
        Check.is(2, ShopDesks.MARK);
        Check.is(3, ShopDesks.SETTLE);
    }

    private static Set<String> due() {
        return new TreeSet<>(Arrays.asList(
                "constant NONE", "constant COUNT", "constant PLACE", "constant MARK", "constant SETTLE",
                "constructor []",
                method("int", "tell", "int, long, int, int, long, long", INDEX, ARGUMENT, STATE),
                method("int", "set", "int", INDEX, STATE),
                method("int", "join", "int, int", INDEX),
                method("boolean", "equal", "int, int", INDEX),
                method("long", "at", "int, int, int, long", INDEX, ARGUMENT),
                method("int", "conflict", "int, int", INDEX, ARGUMENT),
                method("int", "mark", "int", INDEX),
                method("long", "since", "int, int, int, int", INDEX, ARGUMENT),
                method("boolean", "batch", "int, boolean", INDEX),
                method("boolean", "right", "int, int, boolean", INDEX, ARGUMENT),
                method("long", "seen", "int, int, int, int", INDEX, ARGUMENT, STATE),
                method("int", "entry", "int", ARGUMENT, STATE),
                method("int", "row", "int, int, long", INDEX, ARGUMENT, STATE),
                method("int", "close", "int", INDEX, STATE),
                method("long", "balance", "int, int", INDEX),
                method("boolean", "closeMonth", "int", ARGUMENT),
                method("int", "reverse", "int, int", INDEX, ARGUMENT, STATE)));
    }

    private static String method(String answer, String name, String parameters, String... thrown) {
        return answer + " " + name + " [" + parameters + "] throws " + Arrays.toString(thrown);
    }

    private static Set<String> found() {
        Set<String> found = new TreeSet<>();
        for (Field field : ShopDesks.class.getDeclaredFields()) {
            if (!Modifier.isPrivate(field.getModifiers())) {
                found.add("constant " + field.getName());
            }
        }
        for (Constructor<?> constructor : ShopDesks.class.getDeclaredConstructors()) {
            found.add("constructor " + names(constructor.getParameterTypes()));
        }
        for (Method method : ShopDesks.class.getDeclaredMethods()) {
            if (!Modifier.isPrivate(method.getModifiers()) && !method.isSynthetic()) {
                found.add(method.getReturnType() + " " + method.getName() + " " + names(method.getParameterTypes())
                        + " throws " + names(method.getExceptionTypes()));
            }
        }
        return found;
    }

    private static String names(Class<?>[] types) {
        return Arrays.toString(Arrays.stream(types).map(Class::getSimpleName).toArray());
    }
}
