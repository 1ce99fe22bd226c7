import java.util.Objects;

/** Compares answers with those that are due, and counts. */
final class Check {
    /** A call that may throw. */
    interface Call {
        Object answer();
    }

    private static int right;
    private static int wrong;

    private Check() {
    }

    static void same(String what, Object got, Object due) {
        if (Objects.equals(got, due)) {
            right++;
        } else {
            wrong++;
            System.out.println(what + " answered " + got + ", due is " + due);
        }
    }

    static void number(String what, long got, long due) {
        same(what, got, due);
    }

    /** A call throws exactly the exception that is due. */
    static void fails(String what, Class<? extends RuntimeException> due, Call call) {
        same(what, outcome(call), due.getSimpleName());
    }

    /** The answer as a text, or the name of the exception. */
    static String outcome(Call call) {
        try {
            return String.valueOf(call.answer());
        } catch (RuntimeException e) {
            return e.getClass().getSimpleName();
        }
    }

    /** Ends the test, with 1 if an answer was wrong. */
    static void close() {
        System.out.println(right + " answers right, " + wrong + " wrong");
        if (wrong != 0 || right == 0) {
            System.exit(1);
        }
    }
}
