/** Counts checks and tells those that fail; a test's main method ends with {@link #end}. */
final class Check {
    static final String NOTHING = "nothing";
    static final String INDEX = "IndexOutOfBoundsException";
    static final String ARGUMENT = "IllegalArgumentException";
    static final String STATE = "IllegalStateException";

    private static final int MOST_TOLD = 40;

    private static int checks;
    private static int wrong;

    private Check() {
    }

    /** A call that answers with a number. */
    interface Call {
        long answer();
    }

    static void due(String what, long got, long want) {
        checks++;
        if (got != want) {
            tell(what + ": answered " + got + ", due is " + want);
        }
    }

    static void due(String what, boolean got, boolean want) {
        due(what, got ? 1 : 0, want ? 1 : 0);
    }

    static void due(String what, String got, String want) {
        checks++;
        if (!got.equals(want)) {
            tell(what + ": answered " + got + ", due is " + want);
        }
    }

    static void throwsDue(String what, String exception, Call call) {
        due(what, outcome(call), exception);
    }

    /** The number that a call answers, or the name of what it throws. */
    static String outcome(Call call) {
        try {
            return String.valueOf(call.answer());
        } catch (RuntimeException thrown) {
            return thrown.getClass().getSimpleName();
        }
    }

    static void end(String test) {
        System.out.println(test + ": " + checks + " checks, " + wrong + " wrong");
        if (wrong > 0 || checks == 0) {
            System.exit(1);
        }
    }

    private static void tell(String text) {
        wrong++;
        if (wrong <= MOST_TOLD) {
            System.out.println(text);
        }
    }
}
