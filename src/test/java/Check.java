import java.util.HashSet;
import java.util.Set;

/** Counts checks and tells those that fail; a test's main method ends with {@link #end}. */
final class Check {
    static final String INDEX = "IndexOutOfBoundsException";
    static final String ARGUMENT = "IllegalArgumentException";
    static final String STATE = "IllegalStateException";

    private static final int MOST_TOLD = 40;

    private static final Set<String> TITLES = new HashSet<>();
    private static String title = "";
    private static int checks;
    private static int wrong;

    private Check() {
    }

    /** A call that answers with a number. */
    interface Call {
        long answer();
    }

    /** What a test does. */
    interface Body {
        void run();
    }

    /**
     * A test of its own, which has to check something; its title names the promise. All titles are
     * printed by java -Dtitles=all.
     */
    static void test(String name, Body body) {
        if (System.getProperty("titles") != null) {
            System.out.println(name);
        }
        if (!TITLES.add(name)) {
            tell("two tests are called: " + name);
        }
        title = name + " | ";
        int before = checks;
        try {
            body.run();
        } catch (RuntimeException thrown) {
            tell("thrown is " + thrown);
        }
        if (checks == before) {
            tell("nothing is checked");
        }
        title = "";
    }

    static void due(String what, long got, long want) {
        checks++;
        if (got != want) {
            tell(what + ": answered " + got + ", due is " + want);
        }
    }

    static void due(String what, boolean got, boolean want) {
        due(what, got ? 1 : 0, want ? 1 : 0);
    }

    static void due(String what, String got, String want) {
        checks++;
        if (!got.equals(want)) {
            tell(what + ": answered " + got + ", due is " + want);
        }
    }

    static void throwsDue(String what, String exception, Call call) {
        due(what, outcome(call), exception);
    }

    /** The number that a call answers, or the name of what it throws. */
    static String outcome(Call call) {
        try {
            return String.valueOf(call.answer());
        } catch (RuntimeException thrown) {
            return thrown.getClass().getSimpleName();
        }
    }

    static void end(String test) {
        String tests = TITLES.isEmpty() ? "" : TITLES.size() + " tests, ";
        System.out.println(test + ": " + tests + checks + " checks, " + wrong + " wrong");
        if (wrong > 0 || checks == 0) {
            System.exit(1);
        }
    }

    private static void tell(String text) {
        wrong++;
        if (wrong <= MOST_TOLD) {
            System.out.println(title + text);
        }
    }
}
