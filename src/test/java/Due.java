import java.lang.reflect.InvocationTargetException;
import java.lang.reflect.Method;
import java.lang.reflect.Modifier;
import java.util.Arrays;
import java.util.Comparator;

/** Counts what is not as it is due; a test's main method ends with cases() or with close(). */
final class Due {
    private static String now = "";
    private static int looked = 0;
    private static int wrong = 0;

    private Due() {
    }

    /** Runs each case of a test: a static method without parameters that is not private. Then it closes. */
    static void cases(Class<?> test) {
        Method[] methods = test.getDeclaredMethods();
        Arrays.sort(methods, Comparator.comparing(Method::getName));
        int count = 0;
        for (Method method : methods) {
            if (isCase(method)) {
                runCase(method);
                count++;
            }
        }
        now = "";
        System.out.print(count + " cases, ");
        close();
    }

    static void is(String what, long got, long want) {
        looked++;
        if (got != want) {
            tell(what + " is " + got + ", due is " + want);
        }
    }

    static void is(String what, boolean got, boolean want) {
        looked++;
        if (got != want) {
            tell(what + " is " + got + ", due is " + want);
        }
    }

    static void is(String what, byte[] got, byte[] want) {
        looked++;
        if (!Arrays.equals(got, want)) {
            tell(what + " is " + hex(got) + ", due is " + hex(want));
        }
    }

    static void is(String what, String got, String want) {
        looked++;
        if (!got.equals(want)) {
            tell(what + " is " + got + ", due is " + want);
        }
    }

    /** The call has to throw just this exception, not one that stands below or above it. */
    static void refused(String what, Class<? extends RuntimeException> want, Runnable call) {
        looked++;
        Class<?> got = null;
        try {
            call.run();
        } catch (RuntimeException e) {
            got = e.getClass();
        }
        if (got != want) {
            tell(what + " threw " + got + ", due is " + want);
        }
    }

    static void badNumber(String what, Runnable call) {
        refused(what, IllegalArgumentException.class, call);
    }

    static void noSuch(String what, Runnable call) {
        refused(what, IndexOutOfBoundsException.class, call);
    }

    static void close() {
        if (looked == 0) {
            tell("nothing was looked at");
        }
        System.out.println(looked + " answers looked at, " + wrong + " not as due");
        if (wrong != 0) {
            System.exit(1);
        }
    }

    private static boolean isCase(Method method) {
        int flags = method.getModifiers();
        return Modifier.isStatic(flags) && !Modifier.isPrivate(flags) && !method.isSynthetic()
                && method.getParameterCount() == 0;
    }

    private static void runCase(Method method) {
        now = method.getDeclaringClass().getName() + "." + method.getName() + ": ";
        int before = looked;
        try {
            method.invoke(null);
        } catch (InvocationTargetException e) {
            tell("it broke off by " + e.getCause());
        } catch (IllegalAccessException e) {
            tell("it can't be called");
        }
        if (looked == before) {
            tell("nothing was looked at");
        }
    }

    private static void tell(String text) {
        wrong++;
        if (wrong <= 40) {
            System.out.println(now + text);
        }
    }

    private static String hex(byte[] row) {
        StringBuilder text = new StringBuilder();
        for (byte b : row) {
            text.append(String.format("%02x", b & 255));
        }
        return text.toString();
    }
}
