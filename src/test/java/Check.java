/** Counts checks and prints those whose answer is not the one that is due. */
final class Check {
    /** A call of the face, as a test hands it on. */
    interface Call {
        long answer();
    }

    private static int wrong = 0;

    private Check() {
    }

    static void same(String what, long got, long due) {
        if (got != due) {
            wrong++;
            System.out.println(what + ": answered " + got + ", due is " + due);
        }
    }

    static void same(String what, boolean got, boolean due) {
        same(what, got ? 1 : 0, due ? 1 : 0);
    }

    static void fails(String what, Class<? extends RuntimeException> due, Call call) {
        try {
            long got = call.answer();
            wrong++;
            System.out.println(what + ": answered " + got + ", due is " + due.getSimpleName());
        } catch (RuntimeException e) {
            if (e.getClass() != due || !isThrownByTheClass(e)) {
                wrong++;
                System.out.println(what + ": threw " + e + ", due is " + due.getSimpleName());
            }
        }
    }

    /** Whether a throw of the class made the exception, not the machine or the library. */
    static boolean isThrownByTheClass(RuntimeException e) {
        StackTraceElement[] calls = e.getStackTrace();
        return calls.length > 0 && calls[0].getClassName().startsWith("GemPits") && e.getMessage() != null
                && e.getClass() != ArrayIndexOutOfBoundsException.class
                && e.getClass() != NullPointerException.class;
    }

    static void close() {
        if (wrong > 0) {
            System.out.println(wrong + " wrong");
            System.exit(1);
        }
    }
}
