import java.lang.reflect.Array;
import java.lang.reflect.Field;
import java.lang.reflect.Modifier;
import java.util.Arrays;
import java.util.function.BooleanSupplier;
import java.util.function.LongSupplier;

/** What the tests share: they print each answer that is not due, and end with exit code 1 if there was one. */
final class Check {
    private static int checks = 0;
    private static int wrong = 0;

    private Check() {
    }

    static void is(long want, long got) {
        checks++;
        if (want != got) {
            report("answered " + got + ", due is " + want);
        }
    }

    static void is(boolean want, boolean got) {
        is(want ? 1 : 0, got ? 1 : 0);
    }

    /** The answer is due, and the call changed nothing. */
    static void keeps(ShopDesks x, long want, LongSupplier call) {
        String before = stateOf(x);
        is(want, call.getAsLong());
        that(before.equals(stateOf(x)), "a call that was to change nothing changed something");
    }

    static void keeps(ShopDesks x, boolean want, BooleanSupplier call) {
        keeps(x, want ? 1 : 0, () -> call.getAsBoolean() ? 1 : 0);
    }

    /** The numbers next to first .. last, and those that are farthest from them. */
    static int[] outside(int first, int last) {
        return new int[] {first - 1, last + 1, Integer.MIN_VALUE, Integer.MAX_VALUE};
    }

    static void noIndex(ShopDesks x, Runnable call) {
        refuses(x, IndexOutOfBoundsException.class, call);
    }

    static void noArgument(ShopDesks x, Runnable call) {
        refuses(x, IllegalArgumentException.class, call);
    }

    static void noState(ShopDesks x, Runnable call) {
        refuses(x, IllegalStateException.class, call);
    }

    static void that(boolean holds, String otherwise) {
        checks++;
        if (!holds) {
            report(otherwise);
        }
    }

    /** The very class, for what the machine throws is a class below the document's. */
    private static void refuses(ShopDesks x, Class<? extends RuntimeException> want, Runnable call) {
        String before = stateOf(x);
        Class<?> got = null;
        try {
            call.run();
        } catch (RuntimeException e) {
            got = e.getClass();
        }
        that(got == want, "threw " + got + ", due is " + want);
        that(before.equals(stateOf(x)), "a call that was to throw changed something");
    }

    static void end() {
        System.out.println(checks + " checks, " + wrong + " wrong");
        if (wrong != 0 || checks == 0) {
            System.exit(1);
        }
    }

    private static void report(String text) {
        wrong++;
        System.out.println(callersLine() + ": " + text);
    }

    private static String callersLine() {
        for (StackTraceElement frame : new Throwable().getStackTrace()) {
            if (!frame.getClassName().equals("Check")) {
                return frame.getFileName() + ":" + frame.getLineNumber();
            }
        }
        return "?";
    }

    /** All that an object holds, as a text: the face can't be asked for it without changing it. */
    static String stateOf(Object held) {
        StringBuilder text = new StringBuilder();
        write(held, held == null ? null : held.getClass(), text);
        return text.toString();
    }

    private static void write(Object held, Class<?> type, StringBuilder text) {
        if (held == null || !type.isArray() && !type.getName().startsWith("ShopDesks")) {
            text.append(held).append(' ');
        } else if (held instanceof int[] ints) {
            text.append(Arrays.toString(ints));
        } else if (held instanceof long[] longs) {
            text.append(Arrays.toString(longs));
        } else if (held instanceof boolean[] booleans) {
            text.append(Arrays.toString(booleans));
        } else if (type.isArray()) {
            for (int i = 0; i < Array.getLength(held); i++) {
                Object element = Array.get(held, i);
                write(element, element == null ? null : element.getClass(), text);
            }
        } else {
            writeFields(held, type, text);
        }
    }

    private static void writeFields(Object held, Class<?> type, StringBuilder text) {
        for (Field field : type.getDeclaredFields()) {
            if (Modifier.isStatic(field.getModifiers())) {
                continue;
            }
            try {
                field.setAccessible(true);
                Object value = field.get(held);
                write(value, value == null ? null : value.getClass(), text.append(field.getName()).append(' '));
            } catch (IllegalAccessException e) {
                throw new AssertionError(e);
            }
        }
    }
}
