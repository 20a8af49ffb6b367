/** Promises 43 to 47: what would be thrown, without throwing it. */
public final class ForecastTest {
    public static void main(String[] args) {
        faces();
        far();
        until();
        wrongArguments();
        scores();
        suspicion();
        fullRecord();
        Check.is("questions change nothing", 1, ForecastTest::nothingChanged);
        Check.finish("ForecastTest");
    }

    private static void faces() {
        DiceAudit x = new DiceAudit();
        int[] even = {6, 3, 4, 4, 4, 1, 3, 1, 1, 4, 2, 5, 2, 3, 6, 3, 1, 1, 5, 2};
        int[] loaded = {4, 4, 4, 4, 4, 2, 4, 2, 2, 4, 3, 4, 3, 4, 4, 4, 2, 2, 4, 3};
        Check.is("promise 43: die 0", 6, () -> x.nextFace(0));
        Check.is("promise 43: die 1", 4, () -> x.nextFace(1));
        for (int i = 0; i < even.length; i++) {
            int count = i + 1;
            Check.is("promise 44: die 0 after " + count, even[i], () -> x.faceAfter(0, count));
            Check.is("promise 44: die 1 after " + count, loaded[i], () -> x.faceAfter(1, count));
        }
        DiceAudit y = Check.loaded("hall 0 1 1;die 1 1 1 1 1;die 0 0 3;die 2 0 3;");
        // The seed 0 becomes 74; 74 % 5 is 4 for die 0 and for die 2.
        Check.is("promise 43: the last face", 5, () -> y.nextFace(0));
        Check.is("promise 43: the only face with a weight", 3, () -> y.nextFace(1));
        Check.is("promise 43: behind a face without weight", 3, () -> y.nextFace(2));
        // 65536 is -1 modulo 65537, and 75 * -1 + 74 is -1 again.
        y.setSeed(65536);
        Check.is("promise 43: the greatest seed", 65536 % 5 + 1, () -> y.nextFace(0));
    }

    private static void far() {
        DiceAudit x = new DiceAudit();
        int seed = x.seed();
        for (int made = 0; made < 199; made++) {
            seed = (75 * seed + 74) % 65537;
        }
        int before = seed;
        int last = (75 * seed + 74) % 65537;
        Check.is("promise 44: 199 throws", before % 6 + 1, () -> x.faceAfter(0, 199));
        Check.is("promise 44: 200 throws", last % 6 + 1, () -> x.faceAfter(0, 200));
    }

    private static void until() {
        DiceAudit x = new DiceAudit();
        int[] due = {6, 11, 2, 3, 12, 1};
        for (int i = 0; i < due.length; i++) {
            int face = i + 1;
            Check.is("promise 45: die 0, face " + face, due[i], () -> x.throwsUntil(0, face));
        }
        Check.is("promise 45: a face without weight", -1, () -> x.throwsUntil(1, 1));
        Check.is("promise 45: die 1, face 2", 6, () -> x.throwsUntil(1, 2));
        lateFace();
    }

    /** A face of which the first throw is made just within, or just after, 200 throws. */
    private static void lateFace() {
        DiceAudit x = Check.loaded("hall 0 1 1;die 1 9 9 9 9 9 9 9 9 9 9 9;");
        boolean[] seen = new boolean[2];
        for (int start = 0; start <= 65536 && !(seen[0] && seen[1]); start++) {
            int due = firstThrowBelowOne(start);
            if (due == 200 || due == 201) {
                seen[due - 200] = true;
                int seed = start;
                DiceAudit fresh = Check.loaded("hall " + seed + " 1 1;die 1 9 9 9 9 9 9 9 9 9 9 9;");
                Check.is("promise 45: throw " + due, due == 200 ? 200 : -1, () -> fresh.throwsUntil(0, 1));
            }
        }
        Check.yes("promise 45: both seeds are found", () -> seen[0] && seen[1]);
        Check.is("promise 45: the weight 1 of 100", firstThrowBelowOne(0) <= 200 ? firstThrowBelowOne(0) : -1,
            () -> x.throwsUntil(0, 1));
    }

    private static int firstThrowBelowOne(int start) {
        int seed = start;
        for (int made = 1; made < 100000; made++) {
            seed = (75 * seed + 74) % 65537;
            if (seed % 100 == 0) {
                return made;
            }
        }
        return 100000;
    }

    private static void wrongArguments() {
        DiceAudit x = new DiceAudit();
        for (int no : new int[] {-1, 2, 6, Integer.MIN_VALUE, Integer.MAX_VALUE}) {
            Check.noIndex("promise 43: die " + no, () -> x.nextFace(no));
            Check.noIndex("promise 44: die " + no, () -> x.faceAfter(no, 1));
            Check.noIndex("promise 44: no count either, die " + no, () -> x.faceAfter(no, 0));
            Check.noIndex("promise 45: die " + no, () -> x.throwsUntil(no, 1));
            Check.noIndex("promise 45: no face either, die " + no, () -> x.throwsUntil(no, 0));
            Check.noIndex("promise 46: die " + no, () -> x.scoreAfter(0, no, 1));
            Check.noIndex("promise 46: player " + (no == 2 ? 3 : no), () -> x.scoreAfter(no == 2 ? 3 : no, 0, 51));
            Check.noIndex("promise 47: die " + no, () -> x.throwsUntilSuspicious(0, no));
            Check.noIndex("promise 47: player " + (no == 2 ? 3 : no), () -> x.throwsUntilSuspicious(no == 2 ? 3 : no, 0));
        }
        for (int count : new int[] {0, -1, 201, Integer.MIN_VALUE, Integer.MAX_VALUE}) {
            Check.badArgument("promise 44: count " + count, () -> x.faceAfter(0, count));
        }
        for (int face : new int[] {0, -1, 5, Integer.MIN_VALUE, Integer.MAX_VALUE}) {
            Check.badArgument("promise 45: face " + face, () -> x.throwsUntil(1, face));
        }
        Check.badArgument("promise 45: face 7 of 6", () -> x.throwsUntil(0, 7));
        for (int count : new int[] {-1, 51, Integer.MIN_VALUE, Integer.MAX_VALUE}) {
            Check.badArgument("promise 46: count " + count, () -> x.scoreAfter(0, 0, count));
        }
    }

    private static void scores() {
        DiceAudit x = new DiceAudit();
        Check.is("promise 46: no throw", 10, () -> x.scoreAfter(2, 0, 0));
        // Faces 1 1 6: 6 * (4 + 1) - 9 = 21 and 21 / 3 = 7; with 3: 6 * 6 - 16 = 20 and 20 / 4 = 5.
        Check.is("promise 46: one throw", 7, () -> x.scoreAfter(2, 0, 1));
        Check.is("promise 46: two throws", 5, () -> x.scoreAfter(2, 0, 2));
        Check.is("promise 46: a pair without throws, none", 0, () -> x.scoreAfter(2, 1, 0));
        Check.is("promise 46: a pair without throws, five times 4", 15, () -> x.scoreAfter(2, 1, 5));
        for (int times : new int[] {1, 7, 50}) {
            double foreseen = x.scoreAfter(1, 0, times);
            x.throwDie(1, 0, times);
            Check.is("promise 46: as thrown " + times + " times", foreseen, () -> x.score(1, 0));
            x.undo();
        }
    }

    private static void suspicion() {
        DiceAudit x = new DiceAudit();
        Check.is("promise 47: suspicious already", 0, () -> x.throwsUntilSuspicious(0, 0));
        Check.is("promise 47: four throws more", 4, () -> x.throwsUntilSuspicious(2, 0));
        DiceAudit y = Check.loaded("hall 1 50 0;die 0 1;player a;player b;throw a 0 1;");
        Check.is("promise 47: just 50 throws", 50, () -> y.throwsUntilSuspicious(1, 0));
        Check.is("promise 47: 49 throws", 49, () -> y.throwsUntilSuspicious(0, 0));
        y.setLimits(51, 0);
        Check.is("promise 47: 51 throws are too many", -1, () -> y.throwsUntilSuspicious(1, 0));
        Check.is("promise 47: 50 more", 50, () -> y.throwsUntilSuspicious(0, 0));
        y.setLimits(1, 49);
        Check.is("promise 47: the score 50", 50, () -> y.throwsUntilSuspicious(1, 0));
        y.setLimits(1, 51);
        Check.is("promise 47: the score 52 is too far", -1, () -> y.throwsUntilSuspicious(0, 0));
        Check.is("promise 47: the score never gets there", -1, () -> y.throwsUntilSuspicious(1, 0));
    }

    private static void fullRecord() {
        DiceAudit x = Check.loaded(Check.HALL + "die 0 1;player a;" + "throw a 0 50;".repeat(6));
        Check.is("promise 46: beyond 300 throws", 350, () -> x.scoreAfter(0, 0, 50));
        x.setLimits(99, 340);
        Check.is("promise 47: beyond 300 throws", 41, () -> x.throwsUntilSuspicious(0, 0));
    }

    private static double nothingChanged() {
        DiceAudit x = new DiceAudit();
        x.nextFace(0);
        x.faceAfter(1, 200);
        x.throwsUntil(1, 1);
        x.scoreAfter(1, 1, 50);
        x.throwsUntilSuspicious(2, 1);
        return Check.state(x).equals(InputTest.FIRST) && x.undoDepth() == 0 ? 1 : 0;
    }
}
