/** Counts what a test expects and what it gets; end() ends the test's program with code 1 if anything was wrong. */
final class Check {
    private static int right = 0;
    private static int wrong = 0;

    private Check() {
    }

    static void equal(String what, long got, long due) {
        that(what + ": got " + got + ", due is " + due, got == due);
    }

    static void equal(String what, boolean got, boolean due) {
        that(what + ": got " + got + ", due is " + due, got == due);
    }

    static void that(String what, boolean holds) {
        if (holds) {
            right++;
        } else {
            wrong++;
            System.out.println("wrong: " + what);
        }
    }

    static void argumentRefused(String what, Runnable call) {
        refused(what, IllegalArgumentException.class, call);
    }

    static void indexRefused(String what, Runnable call) {
        refused(what, IndexOutOfBoundsException.class, call);
    }

    static void stateRefused(String what, Runnable call) {
        refused(what, IllegalStateException.class, call);
    }

    /** The class must be the very one: the machine's own exceptions stand below the documented ones. */
    private static void refused(String what, Class<?> due, Runnable call) {
        Class<?> got = null;
        try {
            call.run();
        } catch (RuntimeException e) {
            got = e.getClass();
        }
        that(what + ": threw " + got + ", due is " + due, got == due);
    }

    static void end(String name) {
        System.out.println(name + ": " + right + " right, " + wrong + " wrong");
        if (wrong != 0 || right == 0) {
            System.exit(1);
        }
    }
}
