import java.util.Arrays;

/** Counts what is not as it is due; a test's main method ends with close(). */
final class Due {
    private static int looked = 0;
    private static int wrong = 0;

    private Due() {
    }

    static void is(String what, long got, long want) {
        looked++;
        if (got != want) {
            tell(what + " is " + got + ", due is " + want);
        }
    }

    static void is(String what, boolean got, boolean want) {
        is(what, got ? 1 : 0, want ? 1 : 0);
    }

    static void is(String what, byte[] got, byte[] want) {
        looked++;
        if (!Arrays.equals(got, want)) {
            tell(what + " is " + hex(got) + ", due is " + hex(want));
        }
    }

    /** The call has to throw just this exception, not one that stands below or above it. */
    static void refused(String what, Class<? extends RuntimeException> want, Runnable call) {
        looked++;
        Class<?> got = null;
        try {
            call.run();
        } catch (RuntimeException e) {
            got = e.getClass();
        }
        if (got != want) {
            tell(what + " threw " + got + ", due is " + want);
        }
    }

    static void badNumber(String what, Runnable call) {
        refused(what, IllegalArgumentException.class, call);
    }

    static void noSuch(String what, Runnable call) {
        refused(what, IndexOutOfBoundsException.class, call);
    }

    static void close() {
        if (looked == 0) {
            tell("nothing was looked at");
        }
        System.out.println(looked + " answers looked at, " + wrong + " not as due");
        if (wrong != 0) {
            System.exit(1);
        }
    }

    private static void tell(String text) {
        wrong++;
        if (wrong <= 40) {
            System.out.println(text);
        }
    }

    private static String hex(byte[] row) {
        StringBuilder text = new StringBuilder();
        for (byte b : row) {
            text.append(String.format("%02x", b & 255));
        }
        return text.toString();
    }
}
