/** Counts tests; a test fails if one of its checks does. */
final class Checks {
    interface Call {
        long answer();
    }

    private static int passed = 0;
    private static int failed = 0;
    private static int wrong = 0;
    private static String test = "";

    private Checks() {
    }

    static void run(String name, Runnable body) {
        test = name;
        wrong = 0;
        try {
            body.run();
        } catch (RuntimeException e) {
            fail("ended with " + e);
        }
        if (wrong == 0) {
            passed++;
        } else {
            failed++;
        }
    }

    static void fail(String what) {
        wrong++;
        System.out.println(test + ": " + what);
    }

    /** What a call answers, or the exception that it throws, as one text. */
    static String outcome(Call call) {
        try {
            return Long.toString(call.answer());
        } catch (RuntimeException e) {
            return e.getClass().getSimpleName();
        }
    }

    static void due(String name, long got, long want) {
        if (got != want) {
            fail(name + " answered " + got + ", due is " + want);
        }
    }

    static void index(String name, Call call) {
        same(name, outcome(call), "IndexOutOfBoundsException");
    }

    static void argument(String name, Call call) {
        same(name, outcome(call), "IllegalArgumentException");
    }

    static void state(String name, Call call) {
        same(name, outcome(call), "IllegalStateException");
    }

    static void same(String name, String got, String want) {
        if (!got.equals(want)) {
            fail(name + " gave " + got + ", due is " + want);
        }
    }

    static int failures() {
        return failed;
    }

    static int passes() {
        return passed;
    }
}
