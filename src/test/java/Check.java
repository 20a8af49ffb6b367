/** Counts the answers that are not the ones that are due. */
final class Check {
    /** A first statement of 11 bytes, for texts that are about another one. */
    static final String HALL = "hall 1 1 1;";

    private static int wrong = 0;
    private static int made = 0;

    interface Call {
        double answer();
    }

    interface Question {
        boolean answer();
    }

    private Check() {
    }

    static void is(String what, double want, Call call) {
        made++;
        try {
            double got = call.answer();
            if (got != want) {
                report(what, got, want);
            }
        } catch (RuntimeException thrown) {
            report(what, thrown, want);
        }
    }

    static void yes(String what, Question question) {
        is(what, 1, () -> question.answer() ? 1 : 0);
    }

    static void no(String what, Question question) {
        is(what, 0, () -> question.answer() ? 1 : 0);
    }

    static void isThrown(String what, Class<? extends RuntimeException> want, Call call) {
        made++;
        try {
            report(what, call.answer(), want);
        } catch (RuntimeException thrown) {
            if (thrown.getClass() != want) {
                report(what, thrown, want);
            }
        }
    }

    static void noIndex(String what, Call call) {
        isThrown(what, IndexOutOfBoundsException.class, call);
    }

    static void badArgument(String what, Call call) {
        isThrown(what, IllegalArgumentException.class, call);
    }

    static void badState(String what, Call call) {
        isThrown(what, IllegalStateException.class, call);
    }

    static void noElement(String what, Call call) {
        isThrown(what, java.util.NoSuchElementException.class, call);
    }

    private static void report(String what, Object got, Object want) {
        wrong++;
        System.out.println(what + ": answered " + got + ", due is " + want);
    }

    /** Puts the text, one byte a character, into an input buffer that holds nothing. */
    static void put(DiceAudit hall, String text) {
        StringBuilder rest = new StringBuilder(text);
        while (rest.length() % 20 != 0) {
            rest.append(' ');
        }
        for (int i = 0; i < rest.length(); i += 20) {
            hall.appendInput(word(rest, i), word(rest, i + 4), word(rest, i + 8), word(rest, i + 12), word(rest, i + 16));
        }
        hall.truncateInput(text.length());
    }

    private static int word(CharSequence text, int from) {
        int word = 0;
        for (int i = from; i < from + 4; i++) {
            word = word << 8 | text.charAt(i);
        }
        return word;
    }

    static int load(DiceAudit hall, String text) {
        put(hall, text);
        return hall.load();
    }

    static DiceAudit loaded(String text) {
        DiceAudit hall = new DiceAudit();
        load(hall, text);
        return hall;
    }

    static String output(DiceAudit hall, int length) {
        StringBuilder text = new StringBuilder();
        for (int i = 0; i < length; i++) {
            text.append((char) hall.outputByte(i));
        }
        return text.toString();
    }

    static void same(String what, String want, String got) {
        made++;
        if (!want.equals(got)) {
            report(what, got, want);
        }
    }

    /** All answers about the state, but for those that follow from the others. */
    static String state(DiceAudit hall) {
        StringBuilder text = new StringBuilder();
        text.append(hall.seed()).append(' ').append(hall.minimum()).append(' ').append(hall.threshold());
        for (int die = 0; die < hall.dieCount(); die++) {
            text.append(" die");
            for (int face = 1; face <= hall.faces(die); face++) {
                text.append(' ').append(hall.weightOf(die, face));
            }
        }
        for (int player = 0; player < hall.playerCount(); player++) {
            text.append(' ').append(name(hall, player));
        }
        for (int i = 0; i < hall.throwCount(); i++) {
            text.append(' ').append(hall.playerAt(i)).append(hall.dieAt(i));
            text.append(':').append(hall.faceAt(i)).append(hall.isFairAt(i) ? "*" : "");
        }
        for (int rank = 0; rank < hall.offenceCount(); rank++) {
            text.append(" offence ").append(hall.offencePlayer(rank)).append(hall.offenceDie(rank));
            text.append('=').append(hall.offenceScore(rank));
        }
        return text.toString();
    }

    static String name(DiceAudit hall, int player) {
        StringBuilder name = new StringBuilder();
        try {
            for (int i = 0; i < 1000; i++) {
                name.append((char) hall.nameByte(player, i));
            }
        } catch (java.util.NoSuchElementException end) {
            return name.toString();
        }
        return "endless";
    }

    static void finish(String test) {
        System.out.println(test + ": " + made + " answers, " + wrong + " wrong");
        if (wrong > 0 || made == 0) {
            System.exit(1);
        }
    }
}
