import java.util.NoSuchElementException;

/** Counts the answers that are not the ones that are due. */
final class Check {
    private static String sentence = "";
    private static int wrong = 0;
    private static int made = 0;

    interface Call {
        double answer();
    }

    interface Question {
        boolean answer();
    }

    private Check() {
    }

    /** Each wrong answer is told with the sentence that it breaks. */
    static void begin(String newSentence) {
        sentence = newSentence;
    }

    static int made() {
        return made;
    }

    static void is(String what, double want, Call call) {
        made++;
        try {
            double got = call.answer();
            if (got != want) {
                report(what, got, want);
            }
        } catch (RuntimeException thrown) {
            report(what, thrown, want);
        }
    }

    static void yes(String what, Question question) {
        is(what, 1, () -> question.answer() ? 1 : 0);
    }

    static void no(String what, Question question) {
        is(what, 0, () -> question.answer() ? 1 : 0);
    }

    static void same(String what, String want, String got) {
        made++;
        if (!want.equals(got)) {
            report(what, got, want);
        }
    }

    static void isThrown(String what, Class<? extends RuntimeException> want, Call call) {
        made++;
        try {
            report(what, call.answer(), want);
        } catch (RuntimeException thrown) {
            if (thrown.getClass() != want) {
                report(what, thrown, want);
            }
        }
    }

    /** A refused call throws just this exception and changes nothing at all. */
    static void refused(String what, Class<? extends RuntimeException> want, Audit hall, Call call) {
        String before = Halls.everything(hall);
        isThrown(what, want, call);
        same(what + ", nothing changed", before, Halls.everything(hall));
    }

    static void noIndex(String what, Audit hall, Call call) {
        refused(what, IndexOutOfBoundsException.class, hall, call);
    }

    static void badArgument(String what, Audit hall, Call call) {
        refused(what, IllegalArgumentException.class, hall, call);
    }

    static void badState(String what, Audit hall, Call call) {
        refused(what, IllegalStateException.class, hall, call);
    }

    static void noElement(String what, Audit hall, Call call) {
        refused(what, NoSuchElementException.class, hall, call);
    }

    static void report(String what, Object got, Object want) {
        wrong++;
        System.out.println(sentence + " | " + what + ": answered " + got + ", due is " + want);
    }

    static void finish(String test) {
        System.out.println(test + ": " + made + " answers, " + wrong + " wrong");
        if (wrong > 0 || made == 0) {
            System.exit(1);
        }
    }
}
