/** Counts what is as due and what is not, and says which: single checks, and the tests that they make up. */
final class Check {
    interface Call {
        Object answer();
    }

    private static int passed = 0;
    private static int failed = 0;
    private static int passedTests = 0;
    private static int failedTests = 0;
    private static int passedBefore = 0;
    private static int failedBefore = 0;
    private static String group = "";

    private Check() {
    }

    static void promise(int number, String name) {
        group("promise " + number + " (" + name + ")");
    }

    /** Begins a test; it goes on to the next one, and has passed if all its checks have. */
    static void group(String name) {
        close();
        group = name;
    }

    private static void close() {
        if (!group.isEmpty()) {
            if (passed == passedBefore && failed == failedBefore) {
                count("the test", false, "something to check", "nothing");
            }
            if (failed == failedBefore) {
                passedTests++;
            } else {
                failedTests++;
            }
        }
        passedBefore = passed;
        failedBefore = failed;
        group = "";
    }

    /** Runs a class of tests; what it throws itself is a failed check of the test that it stands in. */
    static void run(String name, Runnable tests) {
        close();
        try {
            tests.run();
        } catch (RuntimeException e) {
            group = group.isEmpty() ? name : group;
            StackTraceElement[] trace = e.getStackTrace();
            count(name + " ends", false, "no exception", e + (trace.length > 0 ? " at " + trace[0] : ""));
        }
        close();
    }

    /** The answer, widened, so that an int is as good as a long. */
    static void is(String what, Object want, Call call) {
        String got = textOf(call);
        count(what, text(want).equals(got), text(want), got);
    }

    /** What a call answers, as a text; of an exception its very class. */
    static String textOf(Call call) {
        try {
            return text(call.answer());
        } catch (RuntimeException e) {
            return "throws." + e.getClass().getSimpleName();
        }
    }

    /** The very class counts: a class below or above it is another exception. */
    static void refuses(String what, Class<? extends RuntimeException> kind, Call call) {
        String want = "throws." + kind.getSimpleName();
        String got;
        try {
            got = text(call.answer());
        } catch (RuntimeException e) {
            got = e.getClass() == kind ? want : "throws." + e.getClass().getName();
        }
        count(what, want.equals(got), want, got);
    }

    static void holds(String what, boolean isSo) {
        count(what, isSo, "true", "false");
    }

    private static String text(Object value) {
        if (value instanceof Float) {
            return "float " + value;
        }
        return String.valueOf(value);
    }

    private static void count(String what, boolean isSo, String want, String got) {
        if (isSo) {
            passed++;
        } else {
            failed++;
            if (failed <= 100) {
                System.out.println(group + ": " + what + " answered " + got + ", due is " + want);
            }
        }
    }

    static int failed() {
        return failed;
    }

    static void tell() {
        close();
        System.out.println("tests of the project: passed " + passedTests + ", failed " + failedTests
            + " (checks: passed " + passed + ", failed " + failed + ")");
    }
}
