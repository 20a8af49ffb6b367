/** Promises 18 to 27: the record and the ranks. */
public final class RecordTest {
    public static void main(String[] args) {
        single();
        sums();
        ranks();
        sameTotals();
        runs();
        empty();
        Check.finish("RecordTest");
    }

    private static void single() {
        DiceAudit x = new DiceAudit();
        int[] faces = {6, 6, 6, 5, 4, 4, 4, 4, 4, 3, 4, 4, 4, 4, 4, 2, 4, 1, 1};
        for (int i = 0; i < faces.length; i++) {
            int index = i;
            Check.is("promise 18: throw " + i, i < 6 ? 0 : i < 14 ? 1 : i < 17 ? 0 : 2, () -> x.playerAt(index));
            Check.is("promise 19: throw " + i, i < 6 || i > 16 ? 0 : 1, () -> x.dieAt(index));
            Check.is("promise 20: throw " + i, faces[i], () -> x.faceAt(index));
            Check.no("promise 21: throw " + i, () -> x.isFairAt(index));
        }
        for (int no : new int[] {-1, 19, 300, Integer.MIN_VALUE, Integer.MAX_VALUE}) {
            Check.noIndex("promise 18: throw " + no, () -> x.playerAt(no));
            Check.noIndex("promise 19: throw " + no, () -> x.dieAt(no));
            Check.noIndex("promise 20: throw " + no, () -> x.faceAt(no));
            Check.noIndex("promise 21: throw " + no, () -> x.isFairAt(no) ? 1 : 0);
        }
        x.absolve();
        // The penance of bob removes his 8 throws and puts 8 fair ones behind the others.
        for (int i = 0; i < 19; i++) {
            int index = i;
            Check.is("promise 21: fair throw " + i, i >= 11 ? 1 : 0, () -> x.isFairAt(index) ? 1 : 0);
            Check.is("promise 18: then throw " + i, i >= 11 ? 1 : i >= 9 ? 2 : 0, () -> x.playerAt(index));
        }
    }

    private static void sums() {
        DiceAudit x = new DiceAudit();
        int[] made = {9, 8, 2};
        int[] total = {41, 31, 2};
        for (int i = 0; i < 3; i++) {
            int player = i;
            Check.is("promise 22: player " + i, made[i], () -> x.throwsOf(player));
            Check.is("promise 23: player " + i, total[i], () -> x.total(player));
            Check.is("promise 24: player " + i, (double) total[i] / made[i], () -> x.meanFace(player));
        }
        for (int no : new int[] {-1, 3, 6, Integer.MIN_VALUE, Integer.MAX_VALUE}) {
            Check.noIndex("promise 22: player " + no, () -> x.throwsOf(no));
            Check.noIndex("promise 23: player " + no, () -> x.total(no));
            Check.noIndex("promise 24: player " + no, () -> x.meanFace(no));
            Check.noIndex("promise 25: player " + no, () -> x.rankOf(no));
            Check.noIndex("promise 27: player " + no, () -> x.longestRun(no));
        }
    }

    private static void rank(String what, DiceAudit x, int... order) {
        for (int i = 0; i < order.length; i++) {
            int rank = i;
            Check.is("promise 25: " + what + ", player " + order[i], rank, () -> x.rankOf(order[rank]));
            Check.is("promise 26: " + what + ", rank " + rank, order[rank], () -> x.playerWithRank(rank));
        }
        Check.noElement("promise 26: a rank too many", () -> x.playerWithRank(order.length));
        Check.noElement("promise 26: rank -1", () -> x.playerWithRank(-1));
    }

    private static void ranks() {
        rank("the first state", new DiceAudit(), 0, 1, 2);
        DiceAudit x = Check.loaded(Check.HALL + "die 0 0 1;player a;player b;player c;throw b 0 3;throw c 0 9;throw a 0 5;");
        rank("by total", x, 2, 0, 1);
        rank("by a total that is greater by 1",
            Check.loaded(Check.HALL + "die 1 0;player a;player b;throw a 0 3;throw b 0 4;"), 1, 0);
    }

    private static void sameTotals() {
        rank("by name", Check.loaded(Check.HALL + "player b;player abc;player ab;player aac;player a;player abcd;"), 4, 3, 2, 1, 5, 0);
        // Two throws of the face 3 and three of the face 2 have the same total.
        rank("by total and name", Check.loaded(Check.HALL + "die 0 0 1;die 0 1;player zz;player z;player a;"
            + "throw zz 0 2;throw z 1 3;throw a 1 1;"), 1, 0, 2);
    }

    private static void runs() {
        DiceAudit x = new DiceAudit();
        Check.is("promise 27: 6 6 6 5 4 4 4 2 4", 3, () -> x.longestRun(0));
        Check.is("promise 27: 4 4 4 3 4 4 4 4", 4, () -> x.longestRun(1));
        Check.is("promise 27: 1 1", 2, () -> x.longestRun(2));
        DiceAudit y = Check.loaded(Check.HALL + "die 0 1;die 0 1 0;die 1 0;player a;player b;player c;"
            + "throw a 0 2;throw b 2 1;throw a 1 3;throw b 2 1;throw a 2 4;throw a 0 1;throw c 0 1;");
        Check.is("promise 27: over two dice and other players", 5, () -> y.longestRun(0));
        Check.is("promise 27: over other players", 2, () -> y.longestRun(1));
        Check.is("promise 27: one throw", 1, () -> y.longestRun(2));
    }

    private static void empty() {
        DiceAudit x = Check.loaded(Check.HALL + "player a;");
        Check.is("promise 22: no throws", 0, () -> x.throwsOf(0));
        Check.is("promise 23: no throws", 0, () -> x.total(0));
        Check.is("promise 24: no throws", 0.0, () -> x.meanFace(0));
        Check.is("promise 25: no throws", 0, () -> x.rankOf(0));
        Check.is("promise 27: no throws", 0, () -> x.longestRun(0));
        Check.noElement("promise 26: no players", () -> Check.loaded(Check.HALL).playerWithRank(0));
        DiceAudit y = Check.loaded(Check.HALL + "die 0 0 0 0 0 0 0 0 0 0 0 1;player a;" + "throw a 0 50;".repeat(6));
        Check.is("promise 23: the greatest total", 3600, () -> y.total(0));
        Check.is("promise 27: the longest run", 300, () -> y.longestRun(0));
    }
}
