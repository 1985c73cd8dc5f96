/** Runs the tests of one file, and tells each answer that is not as due under its test's name. */
final class Answers {
    private static String running = "";
    private static int wrong = 0;
    private static int tests = 0;

    private Answers() {
    }

    /** A test that throws counts as wrong, and the tests behind it still run. */
    static void test(String name, Runnable body) {
        running = name;
        tests++;
        try {
            body.run();
        } catch (RuntimeException e) {
            tell("threw " + e);
        }
    }

    static void due(String call, long got, long want) {
        if (got != want) {
            tell(call + " answered " + got + ", due is " + want);
        }
    }

    static void due(String call, boolean got, boolean want) {
        if (got != want) {
            tell(call + " answered " + got + ", due is " + want);
        }
    }

    static void due(String call, String got, String want) {
        if (!got.equals(want)) {
            tell(call + " answered " + got + ", due is " + want);
        }
    }

    /** A division's own exception has the text "/ by zero" and is never the document's. */
    static void dueArithmetic(String call, ChainSums x, int chain) {
        try {
            tell(call + " answered " + x.cycle(chain) + ", due is an ArithmeticException");
        } catch (ArithmeticException e) {
            if (e.getMessage() != null && e.getMessage().contains("/ by zero")) {
                tell(call + " threw by the machine itself");
            }
        }
    }

    static void end() {
        System.out.println(wrong == 0 ? tests + " tests hold" : wrong + " answers are not as due");
        if (wrong != 0) {
            System.exit(1);
        }
    }

    private static void tell(String what) {
        wrong++;
        System.out.println(running + ": " + what);
    }
}
