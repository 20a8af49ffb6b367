import java.util.NoSuchElementException;

/** The halls that the tests use again and again, and words for what is seen of a hall. */
final class Halls {
    /** A first statement of 11 bytes, for texts that are about another one. */
    static final String HALL = "hall 1 1 1;";
    /** Another one, with which each throw of a die that shows always the same face is suspicious. */
    static final String STRICT = "hall 1 1 0;";
    static final String SIX_DICE = "die 0 1;".repeat(6);
    static final String SIX_PLAYERS = "player a;player b;player c;player d;player e;player f;";
    /** The state that section 6 describes. */
    static final String FIRST = "23634 6 3 die 1 1 1 1 1 1 die 0 1 1 4 ann bob cid"
        + " 00:6 00:6 00:6 00:5 00:4 00:4 11:4 11:4 11:4 11:3 11:4 11:4 11:4 11:4 01:4 01:2 01:4 20:1 20:1"
        + " offence 11=17 offence 00=8";

    private Halls() {
    }

    static Audit loaded(String text) {
        Audit hall = new Audit();
        load(hall, text);
        return hall;
    }

    static Audit empty() {
        return loaded(STRICT);
    }

    /** Six dice, six players, 300 throws and 36 offences: there is no room for more of anything. */
    static Audit full() {
        StringBuilder text = new StringBuilder(STRICT + SIX_DICE + SIX_PLAYERS);
        for (int pair = 0; pair < 36; pair++) {
            text.append("throw ").append((char) ('a' + pair / 6)).append(pair % 6).append(" 8;");
        }
        return loaded(text + "audit;throw a0 12;");
    }

    /** Has one of each, after it has had as many as there can be. */
    static Audit shrunk() {
        Audit hall = full();
        load(hall, STRICT + "die 0 1;player z;throw z 0 1;audit;");
        return hall;
    }

    static Audit[] all() {
        return new Audit[] {new Audit(), empty(), full(), shrunk(),
            loaded(STRICT + "die 0 1;"), loaded(STRICT + "player a;")};
    }

    /** Three hundred throws by a, with one die. */
    static Audit manyThrows(String die) {
        return loaded(STRICT + die + "player a;" + "throw a 0 50;".repeat(6));
    }

    static int load(Audit hall, String text) {
        put(hall, text);
        return hall.load();
    }

    /** Loads a text that has an error. */
    static void failLoad(Audit hall, String text) {
        put(hall, text);
        Check.isThrown("load of " + text, IllegalArgumentException.class, hall::load);
    }

    /** Puts the text, one byte a character, into an input buffer that holds nothing. */
    static void put(Audit hall, String text) {
        String whole = text + " ".repeat((20 - text.length() % 20) % 20);
        for (int i = 0; i < whole.length(); i += 20) {
            hall.appendInput(word(whole, i), word(whole, i + 4), word(whole, i + 8), word(whole, i + 12), word(whole, i + 16));
        }
        hall.truncateInput(text.length());
    }

    static int word(String text, int from) {
        int word = 0;
        for (int i = from; i < from + 4; i++) {
            word = word << 8 | text.charAt(i);
        }
        return word;
    }

    static int next(int seed) {
        return (75 * seed + 74) % 65537;
    }

    /** A seed that becomes this one by a throw. */
    static int before(int seed) {
        for (int previous = 0; previous <= 65536; previous++) {
            if (next(previous) == seed) {
                return previous;
            }
        }
        return DiceAudit.NONE;
    }

    static String output(Audit hall) {
        StringBuilder text = new StringBuilder();
        try {
            for (int i = 0; i < 1000; i++) {
                text.append((char) hall.outputByte(i));
            }
        } catch (NoSuchElementException end) {
            return text.toString();
        }
        return "endless";
    }

    static String name(Audit hall, int player) {
        StringBuilder name = new StringBuilder();
        try {
            for (int i = 0; i < 1000; i++) {
                name.append((char) hall.nameByte(player, i));
            }
        } catch (NoSuchElementException end) {
            return name.toString();
        }
        return "endless";
    }

    static String record(Audit hall) {
        StringBuilder text = new StringBuilder();
        for (int i = 0; i < hall.throwCount(); i++) {
            text.append(' ').append(hall.playerAt(i)).append(hall.dieAt(i));
            text.append(':').append(hall.faceAt(i)).append(hall.isFairAt(i) ? "*" : "");
        }
        return text.toString();
    }

    static String queue(Audit hall) {
        StringBuilder text = new StringBuilder();
        for (int rank = 0; rank < hall.offenceCount(); rank++) {
            text.append(" offence ").append(hall.offencePlayer(rank)).append(hall.offenceDie(rank));
            text.append('=').append(hall.offenceScore(rank));
        }
        return text.toString();
    }

    /** The whole state: all other answers about it follow from these. */
    static String state(Audit hall) {
        StringBuilder text = new StringBuilder();
        text.append(hall.seed()).append(' ').append(hall.minimum()).append(' ').append(hall.threshold());
        for (int die = 0; die < hall.dieCount(); die++) {
            text.append(" die");
            for (int face = 1; face <= hall.faces(die); face++) {
                text.append(' ').append(hall.weightOf(die, face));
            }
        }
        for (int player = 0; player < hall.playerCount(); player++) {
            text.append(' ').append(name(hall, player));
        }
        return text + record(hall) + queue(hall);
    }

    /** The state, the remembered calls, the error and the output: all but the input buffer and the slots. */
    static String allThatIsSeen(Audit hall) {
        return state(hall) + ", undo " + hall.undoDepth() + ", error " + hall.errorCode() + " at " + hall.errorPosition()
            + ", output " + output(hall);
    }

    /** What can be seen, and what other calls would bring to light. The hall itself is left alone. */
    static String everything(Audit hall) {
        return allThatIsSeen(hall.again()) + ", slots" + restored(hall.again(), 0) + restored(hall.again(), 1)
            + ", remembered" + remembered(hall.again()) + ", input" + input(hall.again());
    }

    private static String restored(Audit hall, int slot) {
        try {
            hall.restore(slot);
        } catch (IllegalStateException empty) {
            return " empty";
        }
        return " (" + state(hall) + ")";
    }

    private static String remembered(Audit hall) {
        StringBuilder text = new StringBuilder();
        for (int depth = hall.undoDepth(); depth > 0; depth--) {
            hall.undo();
            text.append(" (").append(state(hall)).append(')');
        }
        return text.toString();
    }

    /** The player that the buffer names, its length, and what it says. */
    private static String input(Audit hall) {
        StringBuilder text = new StringBuilder(" ").append(hall.findPlayer()).append(" length ").append(inputLength(hall.again()));
        try {
            hall.load();
        } catch (IllegalArgumentException wrong) {
            return text.append(" error ").append(hall.errorCode()).append(" at ").append(hall.errorPosition()).toString();
        }
        return text.append(" (").append(state(hall)).append(')').toString();
    }

    private static int inputLength(Audit hall) {
        try {
            return hall.appendInput(0, 0, 0, 0, 0) - 20;
        } catch (IllegalStateException noRoom) {
            int length = 600;
            while (length > 580 && !isAtLeast(hall, length)) {
                length--;
            }
            return length;
        }
    }

    private static boolean isAtLeast(Audit hall, int length) {
        try {
            hall.truncateInput(length);
            return true;
        } catch (IllegalArgumentException tooLong) {
            return false;
        }
    }
}
