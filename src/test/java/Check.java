/** What the tests share: it prints every answer that is not the one due, and counts them. */
final class Check {
    static final Class<?> UNKNOWN = IllegalArgumentException.class;
    static final Class<?> RANGE = IndexOutOfBoundsException.class;
    static final Class<?> STATE = IllegalStateException.class;
    static final Class<?> ROOM = UnsupportedOperationException.class;

    private static int checks = 0;
    private static int wrong = 0;

    private Check() {
    }

    /** A test that an exception ends is told as wrong, and those behind it still run. */
    static void test(String name, Runnable body) {
        try {
            body.run();
        } catch (RuntimeException e) {
            checks++;
            report(name + " was ended by " + e + " at " + place(e));
        }
    }

    private static String place(RuntimeException e) {
        for (StackTraceElement frame : e.getStackTrace()) {
            if (frame.getClassName().endsWith("Test")) {
                return frame.toString();
            }
        }
        return "an unknown place";
    }

    static void equal(String what, long got, long want) {
        checks++;
        if (got != want) {
            report(what + " answered " + got + ", due is " + want);
        }
    }

    static void isTrue(String what, boolean holds) {
        checks++;
        if (!holds) {
            report(what);
        }
    }

    static void takes(String what, Runnable call) {
        checks++;
        try {
            call.run();
        } catch (RuntimeException e) {
            report(what + " threw " + e.getClass().getName() + ", due is that it is taken");
        }
    }

    /** The class itself is due: one below it would come from the machine, not from a throw. */
    static void refuses(String what, Class<?> want, Runnable call) {
        checks++;
        Class<?> got = null;
        try {
            call.run();
        } catch (RuntimeException e) {
            got = e.getClass();
        }
        if (got != want) {
            report(what + " threw " + (got == null ? "nothing" : got.getName()) + ", due is " + want.getName());
        }
    }

    static void report(String text) {
        wrong++;
        System.out.println(text);
    }

    static int wrongSoFar() {
        return wrong;
    }

    static void finish() {
        System.out.println(wrong == 0 ? checks + " checks hold" : wrong + " of " + checks + " checks fail");
        if (wrong != 0 || checks == 0) {
            System.exit(1);
        }
    }
}
