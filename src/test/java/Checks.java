/** Compares answers with those that are due, and ends a test with exit code 1 if one was wrong. */
final class Checks {
    /** A call whose answer may be an exception. */
    interface Call {
        int answer();
    }

    static final String STATE = "throws.IllegalStateException";
    static final String ARGUMENT = "throws.IllegalArgumentException";
    static final String INDEX = "throws.IndexOutOfBoundsException";

    private static int compared = 0;
    private static int wrong = 0;

    private Checks() {
    }

    static String answerOf(Call call) {
        try {
            return Integer.toString(call.answer());
        } catch (RuntimeException e) {
            // The exact class: a machine's ArrayIndexOutOfBoundsException is not the one that is due.
            return "throws." + e.getClass().getSimpleName();
        }
    }

    static void due(String call, Call got, int want) {
        same(call, answerOf(got), Integer.toString(want));
    }

    static void dueThrow(String call, Call got, String want) {
        same(call, answerOf(got), want);
    }

    static void same(String call, String got, String want) {
        compared++;
        if (!got.equals(want)) {
            wrong++;
            System.out.println(call + " answered " + got + ", due is " + want);
        }
    }

    static void end() {
        System.out.println(wrong == 0 ? compared + " answers are as due" : wrong + " answers are not as due");
        if (wrong != 0 || compared == 0) {
            System.exit(1);
        }
    }
}
