/** Promises 38 to 42, 48 and 53 to 55: the queue, audits, penances and forgiveness. */
public final class OffenceTest {
    /** A die that always shows its last face, of two or of three; n throws have the score n or 2n. */
    private static final String TEXT = "hall 1 1 0;die 0 1;die 0 1;die 0 0 1;player a;player b;player c;";

    public static void main(String[] args) {
        order();
        wrongArguments();
        audits();
        penance();
        penanceOfFew();
        penanceOfPart();
        forgiveness();
        Check.finish("OffenceTest");
    }

    private static void queue(String what, DiceAudit x, int... due) {
        Check.is("promise 38: " + what, due.length / 3, x::offenceCount);
        for (int i = 0; i < due.length / 3; i++) {
            int rank = i;
            Check.is("promise 39: " + what + ", rank " + i, due[3 * i], () -> x.offencePlayer(rank));
            Check.is("promise 40: " + what + ", rank " + i, due[3 * i + 1], () -> x.offenceDie(rank));
            Check.is("promise 41: " + what + ", rank " + i, due[3 * i + 2], () -> x.offenceScore(rank));
        }
        Check.noIndex("promise 39: a rank too many", () -> x.offencePlayer(due.length / 3));
        Check.noIndex("promise 40: a rank too many", () -> x.offenceDie(due.length / 3));
        Check.noIndex("promise 41: a rank too many", () -> x.offenceScore(due.length / 3));
    }

    private static void order() {
        DiceAudit x = Check.loaded(TEXT + "throw b 1 4;throw b 0 4;throw a 1 4;throw a 0 2;throw c 2 3;throw b 2 2;audit;");
        queue("by score, player and die", x, 2, 2, 6, 0, 1, 4, 1, 0, 4, 1, 1, 4, 1, 2, 4, 0, 0, 2);
        Check.is("promise 42: player a", 2, () -> x.offencesOf(0));
        Check.is("promise 42: player b", 3, () -> x.offencesOf(1));
        Check.is("promise 42: player c", 1, () -> x.offencesOf(2));
        // What is added by a later audit finds its place among the others.
        x.throwDie(2, 0, 4);
        x.throwDie(0, 2, 20);
        x.throwDie(2, 1, 1);
        Check.is("promise 53: three more", 3, x::audit);
        queue("after two audits", x, 0, 2, 40, 2, 2, 6, 0, 1, 4, 1, 0, 4, 1, 1, 4, 1, 2, 4, 2, 0, 4, 0, 0, 2, 2, 1, 1);
        DiceAudit y = Check.loaded(TEXT);
        queue("an empty queue", y);
        Check.is("promise 42: none", 0, () -> y.offencesOf(2));
    }

    private static void wrongArguments() {
        DiceAudit x = new DiceAudit();
        for (int no : new int[] {-1, 2, 36, Integer.MIN_VALUE, Integer.MAX_VALUE}) {
            Check.noIndex("promise 39: rank " + no, () -> x.offencePlayer(no));
            Check.noIndex("promise 40: rank " + no, () -> x.offenceDie(no));
            Check.noIndex("promise 41: rank " + no, () -> x.offenceScore(no));
        }
        for (int no : new int[] {-1, 3, 6, Integer.MIN_VALUE, Integer.MAX_VALUE}) {
            Check.noIndex("promise 42: player " + no, () -> x.offencesOf(no));
            Check.noIndex("promise 55: player " + no, () -> x.forgive(no));
        }
        Check.is("promise 55: a refused call is not remembered", 0, x::undoDepth);
        DiceAudit y = Check.loaded(TEXT);
        Check.badState("promise 54: an empty queue", y::absolve);
        Check.is("promise 54: a refused call is not remembered", 1, y::undoDepth);
    }

    private static void audits() {
        DiceAudit x = Check.loaded("hall 1 3 3;die 0 1;die 0 1;player a;player b;throw a 0 4;throw b 0 3;throw b 1 4;");
        Check.is("promise 53: two suspicious pairs", 2, x::audit);
        queue("an audit", x, 0, 0, 4, 1, 1, 4);
        Check.is("promise 53: nothing new", 0, x::audit);
        x.throwDie(0, 0, 10);
        x.throwDie(1, 0, 1);
        Check.is("promise 53: one new pair", 1, x::audit);
        queue("a score stays as it was", x, 0, 0, 4, 1, 0, 4, 1, 1, 4);
        Check.is("promise 53: audits are remembered", 6, x::undoDepth);
        x.undo();
        queue("undo of an audit", x, 0, 0, 4, 1, 1, 4);
        x.setLimits(99, 999);
        queue("limits leave the queue alone", x, 0, 0, 4, 1, 1, 4);
    }

    private static void penance() {
        DiceAudit x = new DiceAudit();
        Check.is("promise 48: 8 throws of a score of 17", 8, x::penanceNow);
        // The seeds after 23634 give these fair faces of 4: 2 3 2 4 4 3 1 1.
        Check.is("promise 54: the sum of the fair faces", 20, x::absolve);
        Check.same("promise 54: the state after it", "9384 6 3 die 1 1 1 1 1 1 die 0 1 1 4 ann bob cid"
            + " 00:6 00:6 00:6 00:5 00:4 00:4 01:4 01:2 01:4 20:1 20:1"
            + " 11:2* 11:3* 11:2* 11:4* 11:4* 11:3* 11:1* 11:1* offence 00=8", Check.state(x));
        Check.is("promise 48: 6 throws of a score of 8", 6, x::penanceNow);
        x.absolve();
        Check.is("promise 48: an empty queue", 0, x::penanceNow);
        Check.badState("promise 54: nothing is left", x::absolve);
        Check.is("promise 54: penances are remembered", 2, x::undoDepth);
        x.undo();
        x.undo();
        Check.same("promise 54: undone", InputTest.FIRST, Check.state(x));
    }

    /** The score 2 of the offence counts, not that of later throws; only the latest throws go. */
    private static void penanceOfPart() {
        DiceAudit x = Check.loaded(TEXT + "throw a 0 2;audit;throw b 0 1;throw a 0 3;throw a 1 1;");
        Check.is("promise 48: the score of the offence", 2, x::penanceNow);
        int first = next(x.seed());
        int fair = fairFace(first) + fairFace(next(first));
        Check.is("promise 54: two fair throws", fair, x::absolve);
        Check.is("promise 54: the seed after two throws", next(first), x::seed);
        StringBuilder order = new StringBuilder();
        for (int i = 0; i < x.throwCount(); i++) {
            order.append(x.playerAt(i)).append(x.dieAt(i)).append(x.isFairAt(i) ? "* " : " ");
        }
        Check.same("promise 54: the others keep their order", "00 00 10 00 01 00* 00* ", order.toString());
    }

    private static int next(int seed) {
        return (75 * seed + 74) % 65537;
    }

    private static int fairFace(int seed) {
        return seed % 2 + 1;
    }

    /** A score of 6 for three throws with the last face of three. */
    private static void penanceOfFew() {
        DiceAudit x = Check.loaded(TEXT + "throw a 2 3;throw a 0 1;audit;");
        Check.is("promise 41: the score", 6, () -> x.offenceScore(0));
        Check.is("promise 48: not more than the throws", 3, x::penanceNow);
        x.absolve();
        Check.is("promise 54: all of them are fair", 0.75, x::fairShare);
        Check.is("promise 54: the number stays", 3, () -> x.throwsOfPair(0, 2));
        Check.is("promise 54: the other die's throw is first", 0, () -> x.dieAt(0));
    }

    private static void forgiveness() {
        DiceAudit x = Check.loaded(TEXT + "throw b 1 4;throw b 0 3;throw a 1 4;throw c 2 3;throw b 2 1;audit;");
        Check.is("promise 55: three offences", 3, () -> x.forgive(1));
        queue("what is left", x, 2, 2, 6, 0, 1, 4);
        Check.is("promise 55: none", 0, () -> x.forgive(1));
        Check.is("promise 55: both are remembered", 3, x::undoDepth);
        Check.is("promise 55: the first one", 1, () -> x.forgive(2));
        queue("one is left", x, 0, 1, 4);
        Check.is("promise 55: the last one", 1, () -> x.forgive(0));
        queue("none is left", x);
        Check.is("promise 53: forgiven pairs are found again", 5, x::audit);
        x.undo();
        x.undo();
        queue("undo of forgive", x, 0, 1, 4);
    }
}
