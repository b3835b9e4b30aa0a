/** Counts the answers that are not as due, and tells each of them. */
final class Check {
    /** A call that is made later, and whose answer may be an exception. */
    interface Call {
        Object answer();
    }

    private static int right = 0;
    private static int wrong = 0;

    private Check() {
    }

    static void due(String what, Object want, Object got) {
        if (want.equals(got)) {
            right++;
        } else {
            wrong++;
            System.out.println(what + ": answered " + got + ", due is " + want);
        }
    }

    static void due(String what, Class<? extends RuntimeException> want, Call call) {
        due(what, "throws." + want.getName(), answerOf(call));
    }

    /** The answer of a call, or "throws." and the exact class of what it throws. */
    static Object answerOf(Call call) {
        try {
            return call.answer();
        } catch (RuntimeException e) {
            return "throws." + e.getClass().getName();
        }
    }

    static void end() {
        System.out.println(right + " answers as due, " + wrong + " not");
        if (wrong > 0 || right == 0) {
            System.exit(1);
        }
    }
}
