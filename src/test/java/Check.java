/** Counts what passed and what failed, for all tests of this folder. */
final class Check {
    interface Call {
        Object answer();
    }

    /** A question for a FRACTION. */
    interface Parts {
        long part(boolean isBelow);
    }

    private static int passed = 0;
    private static int failed = 0;
    private static String sentence = "";
    private static int checkedAhead = -1;

    private Check() {
    }

    /** What is checked from here on is that sentence of the document; one without a check of its own fails. */
    static void sentence(String quoted) {
        endSentence();
        sentence = quoted;
        checkedAhead = passed + failed;
    }

    private static void endSentence() {
        if (passed + failed == checkedAhead) {
            failed++;
            System.out.println("no check of: " + sentence);
        }
    }

    static void same(String what, Object due, Call call) {
        Object got = answerOf(call);
        if (due.equals(got)) {
            passed++;
        } else {
            failed++;
            System.out.println(told(what) + ": answered " + got + ", due is " + due);
        }
    }

    private static String told(String what) {
        return sentence.isEmpty() ? what : "\"" + sentence + "\": " + what;
    }

    static void fraction(String what, long above, long below, Parts asked) {
        same(what + " above", above, () -> asked.part(false));
        same(what + " below", below, () -> asked.part(true));
    }

    /** That the call answers anything at all. */
    static void letsThrough(String what, Call call) {
        Object got = answerOf(call);
        boolean isRefused = got instanceof String text && text.startsWith("throws.");
        same(what + " is refused (" + got + ")", false, () -> isRefused);
    }

    static void throwing(String what, Class<? extends RuntimeException> due, Call call) {
        same(what, "throws." + due.getSimpleName(), call);
    }

    static String answerOf(Class<?> thrown) {
        return "throws." + thrown.getSimpleName();
    }

    static Object answerOf(Call call) {
        try {
            return call.answer();
        } catch (RuntimeException e) {
            return answerOf(e.getClass());
        }
    }

    static void end() {
        endSentence();
        System.out.println(passed + " passed, " + failed + " failed");
        if (failed != 0) {
            System.exit(1);
        }
    }
}
