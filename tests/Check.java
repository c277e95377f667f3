/** What the tests share: calls and the answers that are due, each difference printed and counted. */
final class Check {
    /** A call whose answer may be an exception. */
    interface Call {
        Object answer();
    }

    private static int wrong = 0;
    private static int asked = 0;

    private Check() {
    }

    /** The answer of a call, or throws. and the name of its exception. */
    static String answerOf(Call call) {
        try {
            return String.valueOf(call.answer());
        } catch (RuntimeException | Error e) {
            return "throws." + e.getClass().getSimpleName();
        }
    }

    static void due(String what, Object want, Call call) {
        asked++;
        String got = answerOf(call);
        if (!got.equals(String.valueOf(want))) {
            wrong++;
            System.out.println(what + " answered " + got + ", due is " + want);
        }
    }

    static void noIndex(String what, Call call) {
        due(what, "throws.IndexOutOfBoundsException", call);
    }

    static void noArgument(String what, Call call) {
        due(what, "throws.IllegalArgumentException", call);
    }

    static void unsupported(String what, Call call) {
        due(what, "throws.UnsupportedOperationException", call);
    }

    static void noRoom(String what, Call call) {
        due(what, "throws.IllegalStateException", call);
    }

    static void noElement(String what, Call call) {
        due(what, "throws.NoSuchElementException", call);
    }

    /** Ends a test: the exit code tells whether all was as due. */
    static void end() {
        System.out.println(asked + " answers looked at, " + wrong + " wrong");
        if (wrong > 0) {
            System.exit(1);
        }
    }
}
