/** Counts the checks of one test class and ends it with exit code 1 if one of them failed. */
final class Checks {
    private static int made = 0;
    private static int failed = 0;

    private Checks() {
    }

    static void equal(String what, long got, long want) {
        made++;
        if (got != want) {
            fail(what + " is " + got + ", due is " + want);
        }
    }

    static void equal(String what, String got, String want) {
        made++;
        if (!got.equals(want)) {
            fail(what + " is " + got + ", due is " + want);
        }
    }

    static void holds(String what, boolean held) {
        made++;
        if (!held) {
            fail(what);
        }
    }

    static void argumentRefused(String what, Runnable call) {
        equal(what, outcome(call), "IllegalArgumentException");
    }

    static void stateRefused(String what, Runnable call) {
        equal(what, outcome(call), "IllegalStateException");
    }

    /** The simple name of what the call throws, of exactly that class. */
    static String outcome(Runnable call) {
        try {
            call.run();
            return "no exception";
        } catch (RuntimeException thrown) {
            return thrown.getClass().getSimpleName();
        }
    }

    static void finish() {
        System.out.println(made + " checks, " + failed + " failed");
        if (failed > 0 || made == 0) {
            System.exit(1);
        }
    }

    private static void fail(String message) {
        failed++;
        if (failed <= 20) {
            System.out.println("failed: " + message);
        }
    }
}
