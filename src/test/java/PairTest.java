/** Promises 29 to 37: the pairs and the frequency test. */
public final class PairTest {
    interface PairCall {
        double answer(int player, int die);
    }

    public static void main(String[] args) {
        firstState();
        wrongPairs();
        scores();
        limits();
        worst();
        corners();
        Check.finish("PairTest");
    }

    private static void table(String what, PairCall call, int... due) {
        for (int i = 0; i < due.length; i++) {
            int player = i / 2;
            int die = i % 2;
            Check.is(what + " of player " + player + " and die " + die, due[i], () -> call.answer(player, die));
        }
    }

    private static void firstState() {
        DiceAudit x = new DiceAudit();
        table("promise 29", x::throwsOfPair, 6, 3, 0, 8, 2, 0);
        table("promise 30: face 4", (player, die) -> x.frequency(player, die, 4), 2, 2, 0, 7, 0, 0);
        table("promise 30: face 1", (player, die) -> x.frequency(player, die, 1), 0, 0, 0, 0, 2, 0);
        table("promise 31", x::commonFace, 6, 4, -1, 4, 1, -1);
        table("promise 32", x::facesSeen, 3, 2, 0, 2, 1, 0);
        table("promise 33", x::latestThrow, 5, 16, -1, 13, 18, -1);
        // ann and die 0: 6 * (3 * 3 + 2 * 2 + 1) - 6 * 6 = 48 and 48 / 6 = 8.
        table("promise 34", x::score, 8, 3, 0, 17, 10, 0);
        table("promise 35", (player, die) -> x.isSuspicious(player, die) ? 1 : 0, 1, 0, 0, 1, 0, 0);
        Check.is("promise 36", 2, x::suspiciousPairs);
        Check.is("promise 37", 11, x::worstPair);
        Check.is("promise 30: the last face of 6", 3, () -> x.frequency(0, 0, 6));
        Check.is("promise 31: the smallest of the most frequent", 2, PairTest::tied);
    }

    /** Faces 3, 2, 3 and 2, by dice that are changed between the throws. */
    private static double tied() {
        DiceAudit x = Check.loaded(Check.HALL + "die 0 0 1;player a;throw a 0 2;");
        x.setWeight(0, 2, 1);
        x.setWeight(0, 3, 0);
        x.throwDie(0, 0, 2);
        return x.commonFace(0, 0);
    }

    private static void wrongPairs() {
        DiceAudit x = new DiceAudit();
        int[][] wrong = {{3, 0}, {-1, 0}, {0, 2}, {0, -1}, {6, 6}, {Integer.MAX_VALUE, 0}, {0, Integer.MIN_VALUE}};
        for (int[] pair : wrong) {
            String who = " player " + pair[0] + " die " + pair[1];
            Check.noIndex("promise 29:" + who, () -> x.throwsOfPair(pair[0], pair[1]));
            Check.noIndex("promise 30:" + who, () -> x.frequency(pair[0], pair[1], 1));
            Check.noIndex("promise 30: no face either," + who, () -> x.frequency(pair[0], pair[1], 0));
            Check.noIndex("promise 31:" + who, () -> x.commonFace(pair[0], pair[1]));
            Check.noIndex("promise 32:" + who, () -> x.facesSeen(pair[0], pair[1]));
            Check.noIndex("promise 33:" + who, () -> x.latestThrow(pair[0], pair[1]));
            Check.noIndex("promise 34:" + who, () -> x.score(pair[0], pair[1]));
            Check.noIndex("promise 35:" + who, () -> x.isSuspicious(pair[0], pair[1]) ? 1 : 0);
        }
        for (int face : new int[] {0, 5, -1, Integer.MAX_VALUE, Integer.MIN_VALUE}) {
            Check.badArgument("promise 30: face " + face, () -> x.frequency(0, 1, face));
        }
        Check.badArgument("promise 30: face 7 of 6", () -> x.frequency(0, 0, 7));
    }

    private static void scores() {
        DiceAudit x = Check.loaded(Check.HALL + "die 0 0 0 0 0 0 0 0 0 0 0 1;player a;" + "throw a 0 50;".repeat(6));
        Check.is("promise 34: the greatest score", 3300, () -> x.score(0, 0));
        // 2 and 1 throws of two faces: (1 + 1) / 6, rounded down; 3 and 1: (4 + 4) / 8.
        DiceAudit y = Check.loaded(Check.HALL + "die 0 1;player a;throw a 0 2;");
        y.setWeight(0, 1, 1);
        y.setWeight(0, 2, 0);
        y.throwDie(0, 0, 1);
        Check.is("promise 34: rounded down to 0", 0, () -> y.score(0, 0));
        y.throwDie(0, 0, 2);
        Check.is("promise 34: 2 and 3 throws", 0, () -> y.score(0, 0));
        y.throwDie(0, 0, 1);
        y.throwDie(0, 0, 1);
        Check.is("promise 34: 2 and 5 throws", 1, () -> y.score(0, 0));
    }

    /** Four throws with the same face of two: n is 4 and the score is 4. */
    private static void limits() {
        DiceAudit x = Check.loaded("hall 1 4 3;die 0 1;player a;throw a 0 4;");
        Check.yes("promise 35: n at the minimum, score above the threshold", () -> x.isSuspicious(0, 0));
        Check.is("promise 36: one pair", 1, x::suspiciousPairs);
        x.setLimits(5, 3);
        Check.no("promise 35: n below the minimum", () -> x.isSuspicious(0, 0));
        Check.is("promise 36: none", 0, x::suspiciousPairs);
        x.setLimits(4, 4);
        Check.no("promise 35: score at the threshold", () -> x.isSuspicious(0, 0));
        x.setLimits(3, 0);
        Check.yes("promise 35: both above", () -> x.isSuspicious(0, 0));
        Check.is("promise 36: no pairs at all", 0, () -> Check.loaded("hall 1 1 0;").suspiciousPairs());
        Check.is("promise 36: all pairs", 36, () -> Check.loaded("hall 1 1 0;" + "die 0 1;".repeat(6)
            + "player a;player b;player c;player d;player e;player f;" + allPairs()).suspiciousPairs());
    }

    private static String allPairs() {
        StringBuilder text = new StringBuilder();
        for (int pair = 0; pair < 36; pair++) {
            text.append("throw ").append((char) ('a' + pair / 6)).append(pair % 6).append(" 1;");
        }
        return text.toString();
    }

    private static void worst() {
        Check.is("promise 37: no throws", -1, () -> Check.loaded(Check.HALL + "die 0 1;player a;").worstPair());
        Check.is("promise 37: nothing at all", -1, () -> Check.loaded(Check.HALL).worstPair());
        String before = Check.HALL + "die 0 1;die 1 0;player a;player b;";
        Check.is("promise 37: the smallest player", 1, () -> Check.loaded(before + "throw b 0 2;throw a 1 2;").worstPair());
        Check.is("promise 37: the smallest die", 10, () -> Check.loaded(before + "throw b 1 2;throw b 0 2;").worstPair());
        Check.is("promise 37: the score 1", 11, () -> Check.loaded(before + "throw b 1 1;").worstPair());
        Check.is("promise 37: the greatest score", 11, () -> Check.loaded(before + "throw a 0 2;throw b 1 3;").worstPair());
        DiceAudit x = Check.loaded(before + "throw b 0 1;");
        x.setWeight(0, 1, 1);
        x.setWeight(0, 2, 0);
        x.throwDie(1, 0, 1);
        Check.is("promise 37: all scores are 0", 0, x::worstPair);
    }

    /** One throw of the last face by the last pair that there can be. */
    private static void corners() {
        DiceAudit x = Check.loaded("hall 1 1 0;" + "die 0 1;".repeat(5) + "die 0 0 0 0 0 0 0 0 0 0 0 1;"
            + "player a;player b;player c;player d;player e;player f;throw f 5 1;");
        Check.is("promise 29: the last pair", 1, () -> x.throwsOfPair(5, 5));
        Check.is("promise 30: face 12", 1, () -> x.frequency(5, 5, 12));
        Check.is("promise 30: face 11", 0, () -> x.frequency(5, 5, 11));
        Check.is("promise 31: one throw", 12, () -> x.commonFace(5, 5));
        Check.is("promise 32: face 12", 1, () -> x.facesSeen(5, 5));
        Check.is("promise 33: the only throw", 0, () -> x.latestThrow(5, 5));
        Check.is("promise 34: face 12", 11, () -> x.score(5, 5));
        Check.is("promise 37: the last pair", 55, x::worstPair);
        Check.is("promise 46: face 12 before", 11, () -> x.scoreAfter(5, 5, 0));
        Check.is("promise 46: face 12 before and after", 33, () -> x.scoreAfter(5, 5, 2));
        Check.is("promise 53: the last pair", 1, x::audit);
        Check.is("promise 39: the last player", 5, () -> x.offencePlayer(0));
        Check.is("promise 40: the last die", 5, () -> x.offenceDie(0));
    }
}
