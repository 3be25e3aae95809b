/** Counts what passed and what failed, for all tests of this folder. */
final class Check {
    interface Call {
        Object answer();
    }

    private static int passed = 0;
    private static int failed = 0;

    private Check() {
    }

    static void same(String what, Object due, Call call) {
        Object got = answerOf(call);
        if (due.equals(got)) {
            passed++;
        } else {
            failed++;
            System.out.println(what + ": answered " + got + ", due is " + due);
        }
    }

    static void throwing(String what, Class<? extends RuntimeException> due, Call call) {
        same(what, "throws." + due.getSimpleName(), call);
    }

    static String answerOf(Class<?> thrown) {
        return "throws." + thrown.getSimpleName();
    }

    private static Object answerOf(Call call) {
        try {
            return call.answer();
        } catch (RuntimeException e) {
            return answerOf(e.getClass());
        }
    }

    static void end() {
        System.out.println(passed + " passed, " + failed + " failed");
        if (failed != 0) {
            System.exit(1);
        }
    }
}
