/** Counts the answers that are not as due, tells each one, and ends a test with an exit code by them. */
final class Check {
    private static int asked = 0;
    private static int wrong = 0;

    private Check() {
    }

    static void due(String call, long got, long want) {
        asked++;
        if (got != want) {
            fail(call + " answered " + got + ", due is " + want);
        }
    }

    static void due(String call, boolean got, boolean want) {
        due(call, got ? 1 : 0, want ? 1 : 0);
    }

    /** The call is about a thing that there is not. */
    static void index(String call, Runnable made) {
        refused(call, made, IndexOutOfBoundsException.class);
    }

    /** The call has an argument out of its range. */
    static void range(String call, Runnable made) {
        refused(call, made, IllegalArgumentException.class);
    }

    /** The call can not be made as things stand. */
    static void state(String call, Runnable made) {
        refused(call, made, IllegalStateException.class);
    }

    /** The very class counts: the machine's own exceptions are kinds of these. */
    private static void refused(String call, Runnable made, Class<?> want) {
        asked++;
        Class<?> got = null;
        try {
            made.run();
        } catch (RuntimeException e) {
            got = e.getClass();
        }
        if (got != want) {
            fail(call + " threw " + (got == null ? "nothing" : got.getSimpleName()) + ", due is " + want.getSimpleName());
        }
    }

    static void fail(String what) {
        wrong++;
        if (wrong <= 40) {
            System.out.println(what);
        }
    }

    static void end() {
        System.out.println(asked + " answers looked at, " + wrong + " not as due");
        if (wrong > 0 || asked == 0) {
            System.exit(1);
        }
    }
}
