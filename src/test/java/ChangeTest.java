/** Promises 49 to 52 and 56 to 58: throws, weights, the seed, the limits and what is always so. */
public final class ChangeTest {
    public static void main(String[] args) {
        throwing();
        throwingTooMuch();
        weights();
        wrongWeights();
        seed();
        limits();
        differences();
        shares();
        Check.finish("ChangeTest");
    }

    private static void throwing() {
        DiceAudit x = new DiceAudit();
        Check.is("promise 52: 6 3 4 4", 17, () -> x.throwDie(1, 0, 4));
        Check.is("promise 52: four throws more", 23, x::throwCount);
        for (int i = 0; i < 4; i++) {
            int index = 19 + i;
            Check.is("promise 52: the player", 1, () -> x.playerAt(index));
            Check.is("promise 52: the die", 0, () -> x.dieAt(index));
            Check.no("promise 52: no fair throw", () -> x.isFairAt(index));
        }
        Check.is("promise 52: the last face", 4, () -> x.faceAt(22));
        Check.is("promise 52: remembered", 1, x::undoDepth);
        x.undo();
        Check.same("promise 52: undone", InputTest.FIRST, Check.state(x));
        // The seed 1 becomes 149, and 149 % 6 is 5.
        x.setSeed(1);
        Check.is("promise 52: one throw", 6, () -> x.throwDie(0, 0, 1));
        Check.is("promise 52: the new seed", 149, x::seed);
    }

    private static void throwingTooMuch() {
        DiceAudit x = new DiceAudit();
        int[][] wrong = {{3, 0}, {-1, 0}, {0, 2}, {0, -1}, {Integer.MAX_VALUE, 0}, {0, Integer.MIN_VALUE}};
        for (int[] pair : wrong) {
            Check.noIndex("promise 52: pair " + pair[0] + " " + pair[1], () -> x.throwDie(pair[0], pair[1], 1));
            Check.noIndex("promise 52: no count either", () -> x.throwDie(pair[0], pair[1], 0));
        }
        for (int count : new int[] {0, -1, 51, Integer.MIN_VALUE, Integer.MAX_VALUE}) {
            Check.badArgument("promise 52: count " + count, () -> x.throwDie(0, 0, count));
        }
        Check.same("promise 52: a refused throw changes nothing", InputTest.FIRST, Check.state(x));
        Check.is("promise 52: a refused throw is not remembered", 0, x::undoDepth);
        for (int i = 0; i < 5; i++) {
            Check.is("promise 52: fifty throws", 1, () -> x.throwDie(2, 1, 50) >= 100 ? 1 : 0);
        }
        Check.badState("promise 52: 319 throws", () -> x.throwDie(0, 0, 50));
        Check.badState("promise 52: 301 throws", () -> x.throwDie(0, 0, 32));
        Check.badArgument("promise 52: a full record and a wrong count", () -> x.throwDie(0, 0, 51));
        Check.is("promise 52: the number stays", 269, x::throwCount);
        x.throwDie(0, 0, 31);
        Check.is("promise 52: 300 throws", 300, x::throwCount);
        Check.badState("promise 52: one more", () -> x.throwDie(0, 0, 1));
        Check.noIndex("promise 52: a full record and no such player", () -> x.throwDie(9, 0, 1));
    }

    private static void weights() {
        DiceAudit x = new DiceAudit();
        Check.is("promise 56: the previous weight", 1, () -> x.setWeight(0, 6, 9));
        Check.is("promise 56: the new weight", 9, () -> x.weightOf(0, 6));
        Check.no("promise 56: no longer balanced", () -> x.isBalanced(0));
        Check.is("promise 56: the heaviest face", 6, () -> x.heaviestFace(0));
        Check.is("promise 56: the other weights stay", 1, () -> x.weightOf(0, 5));
        Check.is("promise 56: the other die stays", 4, () -> x.weightOf(1, 4));
        Check.is("promise 56: down to 0", 9, () -> x.setWeight(0, 6, 0));
        Check.is("promise 56: from 0 to 0", 0, () -> x.setWeight(0, 6, 0));
        Check.is("promise 56: the record stays", 6, () -> x.faceAt(0));
        Check.is("promise 56: the score stays", 8, () -> x.score(0, 0));
        Check.is("promise 56: the queue stays", 2, x::offenceCount);
        Check.is("promise 56: remembered", 3, x::undoDepth);
        x.undo();
        x.undo();
        Check.is("promise 56: undone", 9, () -> x.weightOf(0, 6));
        Check.is("promise 56: the same weight", 9, () -> x.setWeight(0, 6, 9));
    }

    private static void wrongWeights() {
        DiceAudit x = new DiceAudit();
        for (int no : new int[] {-1, 2, Integer.MIN_VALUE, Integer.MAX_VALUE}) {
            Check.noIndex("promise 56: die " + no, () -> x.setWeight(no, 1, 1));
            Check.noIndex("promise 56: nothing is right", () -> x.setWeight(no, 0, 10));
        }
        for (int face : new int[] {0, 5, -1, Integer.MIN_VALUE, Integer.MAX_VALUE}) {
            Check.badArgument("promise 56: face " + face, () -> x.setWeight(1, face, 1));
        }
        for (int weight : new int[] {-1, 10, Integer.MIN_VALUE, Integer.MAX_VALUE}) {
            Check.badArgument("promise 56: weight " + weight, () -> x.setWeight(1, 1, weight));
        }
        x.setWeight(1, 2, 0);
        x.setWeight(1, 3, 0);
        Check.badState("promise 56: the last weight", () -> x.setWeight(1, 4, 0));
        Check.is("promise 56: it stays", 4, () -> x.weightOf(1, 4));
        Check.is("promise 56: another 0 is fine", 0, () -> x.setWeight(1, 1, 0));
        Check.badArgument("promise 56: a wrong face and the weight 0", () -> x.setWeight(1, 5, 0));
        DiceAudit y = Check.loaded(Check.HALL + "die 1 0;");
        Check.is("promise 56: a 0 beside the first face", 0, () -> y.setWeight(0, 2, 0));
        Check.badState("promise 56: the first face has the last weight", () -> y.setWeight(0, 1, 0));
        Check.is("promise 56: only what was done is remembered", 3, x::undoDepth);
        Check.is("promise 56: another weight", 4, () -> x.setWeight(1, 4, 1));
    }

    private static void seed() {
        DiceAudit x = new DiceAudit();
        Check.is("promise 57: the previous seed", 23634, () -> x.setSeed(65536));
        Check.is("promise 57: the greatest seed", 65536, x::seed);
        Check.is("promise 57: the previous seed again", 65536, () -> x.setSeed(0));
        Check.is("promise 57: the least seed", 0, x::seed);
        for (int no : new int[] {-1, 65537, Integer.MIN_VALUE, Integer.MAX_VALUE}) {
            Check.badArgument("promise 57: seed " + no, () -> x.setSeed(no));
        }
        Check.is("promise 57: remembered", 2, x::undoDepth);
        x.undo();
        Check.is("promise 57: undone", 65536, x::seed);
    }

    private static void limits() {
        DiceAudit x = new DiceAudit();
        Check.is("promise 58: the least limits", 4, () -> x.setLimits(1, 0));
        Check.is("promise 58: the minimum", 1, x::minimum);
        Check.is("promise 58: the threshold", 0, x::threshold);
        Check.is("promise 58: the queue stays", 2, x::offenceCount);
        Check.is("promise 58: the greatest limits", 0, () -> x.setLimits(99, 999));
        Check.is("promise 58: the minimum 99", 99, x::minimum);
        Check.is("promise 58: the threshold 999", 999, x::threshold);
        Check.is("promise 58: one pair", 1, () -> x.setLimits(7, 0));
        int[][] wrong = {{0, 0}, {100, 0}, {1, -1}, {1, 1000}, {Integer.MIN_VALUE, 5}, {5, Integer.MAX_VALUE}, {-1, -1}};
        for (int[] pair : wrong) {
            Check.badArgument("promise 58: " + pair[0] + " " + pair[1], () -> x.setLimits(pair[0], pair[1]));
        }
        Check.is("promise 58: a refused call changes nothing", 7, x::minimum);
        Check.is("promise 58: remembered", 3, x::undoDepth);
        x.undo();
        Check.is("promise 58: undone", 99, x::minimum);
    }

    private static void differences() {
        DiceAudit x = new DiceAudit();
        for (int i = 0; i < 12; i++) {
            Check.is("promise 49", 0, x::frequencyDifference);
            Check.is("promise 50", 0, x::totalDifference);
            x.throwDie(i % 3, i % 2, 20);
            if (i % 4 == 3) {
                x.audit();
                x.absolve();
            }
        }
        DiceAudit y = Check.loaded(Check.HALL);
        Check.is("promise 49: no throws", 0, y::frequencyDifference);
        Check.is("promise 50: no throws", 0, y::totalDifference);
    }

    private static void shares() {
        Check.is("promise 51: no throws", 0, () -> Check.loaded(Check.HALL).fairShare());
        DiceAudit x = new DiceAudit();
        Check.is("promise 51: no fair throws", 0, x::fairShare);
        x.absolve();
        Check.is("promise 51: 8 of 19", 8.0f / 19.0f, x::fairShare);
        x.absolve();
        Check.is("promise 51: 14 of 19", 14.0f / 19.0f, x::fairShare);
        x.throwDie(0, 0, 2);
        Check.is("promise 51: 14 of 21", 14.0f / 21.0f, x::fairShare);
    }
}
