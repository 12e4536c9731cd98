/** Counts what is as due and what is not, and says which. */
final class Check {
    interface Call {
        Object answer();
    }

    private static int passed = 0;
    private static int failed = 0;
    private static String group = "";

    private Check() {
    }

    static void promise(int number, String name) {
        group = "promise " + number + " (" + name + ")";
    }

    static void group(String name) {
        group = name;
    }

    /** The answer, widened, so that an int is as good as a long. */
    static void is(String what, Object want, Call call) {
        Object got;
        try {
            got = call.answer();
        } catch (RuntimeException e) {
            got = "throws." + e.getClass().getSimpleName();
        }
        count(what, text(want).equals(text(got)), text(want), text(got));
    }

    /** The very class counts: a class below or above it is another exception. */
    static void refuses(String what, Class<? extends RuntimeException> kind, Call call) {
        String want = "throws." + kind.getSimpleName();
        String got;
        try {
            got = text(call.answer());
        } catch (RuntimeException e) {
            got = e.getClass() == kind ? want : "throws." + e.getClass().getSimpleName();
        }
        count(what, want.equals(got), want, got);
    }

    static void holds(String what, boolean isSo) {
        count(what, isSo, "true", "false");
    }

    private static String text(Object value) {
        if (value instanceof Float) {
            return "float " + value;
        }
        return String.valueOf(value);
    }

    private static void count(String what, boolean isSo, String want, String got) {
        if (isSo) {
            passed++;
        } else {
            failed++;
            if (failed <= 100) {
                System.out.println(group + ": " + what + " answered " + got + ", due is " + want);
            }
        }
    }

    static int failed() {
        return failed;
    }

    static void tell() {
        System.out.println("checks of the project: passed " + passed + ", failed " + failed);
    }
}
