/** Counts what the tests found, and ends a test's program as .ci/run asks. */
final class Check {
    interface Call {
        long answer();
    }

    private static int passed = 0;
    private static int failed = 0;

    private Check() {
    }

    static void is(String what, long got, long want) {
        note(got == want, what + " answered " + got + ", due is " + want);
    }

    static void is(String what, boolean got, boolean want) {
        note(got == want, what + " answered " + got + ", due is " + want);
    }

    static void is(String what, String got, String want) {
        note(got.equals(want), what + " answered " + got + ", due is " + want);
    }

    static void noIndex(String what, Call call) {
        is(what, outcome(call), "throws.IndexOutOfBoundsException");
    }

    static void noArgument(String what, Call call) {
        is(what, outcome(call), "throws.IllegalArgumentException");
    }

    static void noState(String what, Call call) {
        is(what, outcome(call), "throws.IllegalStateException");
    }

    /** The answer, or "throws." with the very class of the exception, so that a subclass is not taken for it. */
    static String outcome(Call call) {
        try {
            return String.valueOf(call.answer());
        } catch (RuntimeException e) {
            return "throws." + e.getClass().getSimpleName();
        }
    }

    static void note(boolean good, String fault) {
        if (good) {
            passed++;
        } else {
            failed++;
            System.out.println("  " + fault);
        }
    }

    static void finish(String test) {
        System.out.println(test + ": " + passed + " checks held, " + failed + " did not");
        if (failed != 0) {
            System.exit(1);
        }
    }
}
