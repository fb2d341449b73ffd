/** What the tests share: counting of checks, and the answer of a call as a text, exceptions included. */
final class Check {
    interface Call {
        Object answer();
    }

    private static int passed = 0;
    private static int failed = 0;

    private Check() {
    }

    /** The answer of a call as a text; "throws.Name" if it throws. */
    static String answerOf(Call call) {
        try {
            return String.valueOf(call.answer());
        } catch (RuntimeException e) {
            return "throws." + e.getClass().getSimpleName();
        }
    }

    static void is(String what, Object due, Call call) {
        String got = answerOf(call);
        if (got.equals(String.valueOf(due))) {
            passed++;
        } else {
            failed++;
            System.out.println(what + ": answered " + got + ", due is " + due);
        }
    }

    static void index(String what, Call call) {
        is(what, "throws.IndexOutOfBoundsException", call);
    }

    static void argument(String what, Call call) {
        is(what, "throws.IllegalArgumentException", call);
    }

    static void state(String what, Call call) {
        is(what, "throws.IllegalStateException", call);
    }

    static void end() {
        System.out.println(passed + " passed, " + failed + " failed");
        if (failed != 0) {
            System.exit(1);
        }
    }
}
