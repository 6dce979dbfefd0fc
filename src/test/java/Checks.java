import java.util.HashSet;
import java.util.Set;

/** Compares answers with those that are due, and ends a test with exit code 1 if one was wrong. */
final class Checks {
    /** A call whose answer may be an exception. */
    interface Call {
        int answer();
    }

    static final String STATE = "throws.IllegalStateException";
    static final String ARGUMENT = "throws.IllegalArgumentException";
    static final String INDEX = "throws.IndexOutOfBoundsException";

    private static final Set<String> DUE = new HashSet<>();
    private static String sentence = "";
    private static int sentences = 0;
    private static int compared = 0;
    private static int wrong = 0;

    private Checks() {
    }

    /** What is compared from here on tests these words of the document. */
    static void sentence(String words) {
        endSentence();
        sentence = words;
        sentences++;
    }

    /** A test that only ever sees one answer has not been on both sides of a boundary. */
    private static void endSentence() {
        if (!sentence.isEmpty() && DUE.size() < 2) {
            wrong++;
            System.out.println("\"" + sentence + "\" is tested on one side only");
        }
        DUE.clear();
        sentence = "";
    }

    static String answerOf(Call call) {
        try {
            return Integer.toString(call.answer());
        } catch (RuntimeException e) {
            // The exact class: a machine's ArrayIndexOutOfBoundsException is not the one that is due.
            return "throws." + e.getClass().getSimpleName();
        }
    }

    static void due(String call, Call got, int want) {
        same(call, answerOf(got), Integer.toString(want));
    }

    static void dueThrow(String call, Call got, String want) {
        same(call, answerOf(got), want);
    }

    static void same(String call, String got, String want) {
        compared++;
        if (!sentence.isEmpty()) {
            DUE.add(want);
        }
        if (!got.equals(want)) {
            wrong++;
            System.out.println((sentence.isEmpty() ? "" : "\"" + sentence + "\": ")
                    + call + " answered " + got + ", due is " + want);
        }
    }

    static void end() {
        endSentence();
        System.out.println(wrong == 0 ? compared + " answers are as due, to " + sentences + " sentences"
                : wrong + " answers are not as due");
        if (wrong != 0 || compared == 0) {
            System.exit(1);
        }
    }
}
