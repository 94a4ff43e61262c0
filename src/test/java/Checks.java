/** What all tests share: answers that are due, refusals that are due, and the exit code. */
final class Checks {
    private static int made = 0;
    private static int wrong = 0;

    private Checks() {
    }

    static void due(String what, long got, long want) {
        made++;
        if (got != want) {
            wrong++;
            System.out.println(what + " answered " + got + ", due is " + want);
        }
    }

    /** The call throws exactly this exception. */
    static void refused(String what, Class<? extends RuntimeException> due, Runnable call) {
        made++;
        Class<?> got = null;
        try {
            call.run();
        } catch (RuntimeException e) {
            got = e.getClass();
            thrownByProgram(what, e);
        }
        if (got != due) {
            wrong++;
            System.out.println(what + " threw " + got + ", due is " + due);
        }
    }

    /** The program itself throws: neither the machine nor the library does, not even the same exception. */
    static void thrownByProgram(String what, RuntimeException e) {
        StackTraceElement[] trace = e.getStackTrace();
        if (trace.length == 0 || !trace[0].getClassName().startsWith("Pledgehouse")) {
            wrong++;
            System.out.println(what + " threw " + e + " outside the program");
        }
    }

    static void noIndex(String what, Runnable call) {
        refused(what, IndexOutOfBoundsException.class, call);
    }

    static void noArgument(String what, Runnable call) {
        refused(what, IllegalArgumentException.class, call);
    }

    static void noState(String what, Runnable call) {
        refused(what, IllegalStateException.class, call);
    }

    static void end(String test) {
        System.out.println(test + ": " + made + " checks, " + wrong + " wrong");
        if (wrong != 0 || made == 0) {
            System.exit(1);
        }
    }
}
