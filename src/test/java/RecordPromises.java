/** Promises 18 to 27: the record and the ranks. */
final class RecordPromises {
    private static final int[] FIRST_FACES = {6, 6, 6, 5, 4, 4, 4, 4, 4, 3, 4, 4, 4, 4, 4, 2, 4, 1, 1};
    private static final String NO_PLAYER = "Throws `IndexOutOfBoundsException` if the player does not exist";
    private static final String NO_THROW = "Throws `IndexOutOfBoundsException` if the throw does not exist";
    private static final String INDEX = "`index`: an index, 0 for the oldest throw";

    private RecordPromises() {
    }

    static void test() {
        singleThrows();
        throwsOf();
        total();
        meanFace();
        rankOf();
        playerWithRank();
        longestRun();
    }

    /** A hall in which the oldest and the latest throw differ from all others in player, die and face. */
    private static Audit threeKinds() {
        return Halls.loaded(Halls.STRICT + "die 0 1;die 0 0 1;die 0 0 0 1;player a;player b;player c;"
            + "throw c 1 1;throw b 0 8;throw a 2 1;");
    }

    private static void singleThrows() {
        Doc.promise(18);
        Doc.says(INDEX, () -> {
            Audit x = threeKinds();
            Check.is("the oldest", 2, () -> x.playerAt(0));
            Check.is("the next one", 1, () -> x.playerAt(1));
            Check.is("the latest", 0, () -> x.playerAt(9));
        });
        Doc.says("Returns the player of the throw.", () -> {
            Audit x = new Audit();
            for (int i = 0; i < 19; i++) {
                int index = i;
                Check.is("throw " + i, i < 6 ? 0 : i < 14 ? 1 : i < 17 ? 0 : 2, () -> x.playerAt(index));
            }
            Check.is("the last of six players", 5, () -> Halls.full().playerAt(287));
        });
        Doc.says(NO_THROW, () -> Missing.throwIndex(Audit::playerAt));
        Doc.promise(19);
        Doc.says(INDEX, () -> {
            Audit x = threeKinds();
            Check.is("the oldest", 1, () -> x.dieAt(0));
            Check.is("the next one", 0, () -> x.dieAt(1));
            Check.is("the latest", 2, () -> x.dieAt(9));
        });
        Doc.says("Returns the die of the throw.", () -> {
            Audit x = new Audit();
            for (int i = 0; i < 19; i++) {
                int index = i;
                Check.is("throw " + i, i < 6 || i > 16 ? 0 : 1, () -> x.dieAt(index));
            }
            Check.is("the last die", 5, () -> Halls.full().dieAt(287));
        });
        Doc.says(NO_THROW, () -> Missing.throwIndex(Audit::dieAt));
        Doc.promise(20);
        Doc.says(INDEX, () -> {
            Audit x = threeKinds();
            Check.is("the oldest", 3, () -> x.faceAt(0));
            Check.is("the next one", 2, () -> x.faceAt(1));
            Check.is("the latest", 4, () -> x.faceAt(9));
        });
        Doc.says("Returns the face of the throw.", () -> {
            Audit x = new Audit();
            for (int i = 0; i < 19; i++) {
                int index = i;
                Check.is("throw " + i, FIRST_FACES[i], () -> x.faceAt(index));
            }
            Audit y = Halls.manyThrows("die 0 0 0 0 0 0 0 0 0 0 0 1;");
            Check.is("face 12 in the first throw", 12, () -> y.faceAt(0));
            Check.is("face 12 in the last throw", 12, () -> y.faceAt(299));
        });
        Doc.says(NO_THROW, () -> Missing.throwIndex(Audit::faceAt));
        markedThrows();
    }

    private static void markedThrows() {
        Doc.promise(21);
        Doc.says(INDEX, () -> {
            Audit x = Halls.loaded(Halls.STRICT + "die 0 1;player a;player b;throw a 0 2;throw b 0 1;audit;absolve;throw a 0 1;");
            Check.no("the oldest, of b", () -> x.isFairAt(0));
            Check.yes("the next one, fair", () -> x.isFairAt(1));
            Check.yes("the third, fair", () -> x.isFairAt(2));
            Check.no("the latest", () -> x.isFairAt(3));
        });
        Doc.says("Returns whether the throw is marked as a fair one.", () -> {
            Audit x = new Audit();
            for (int i = 0; i < 19; i++) {
                int index = i;
                Check.no("throw " + i, () -> x.isFairAt(index));
            }
            x.absolve();
            for (int i = 0; i < 19; i++) {
                int index = i;
                Check.is("after a penance, throw " + i, i >= 11 ? 1 : 0, () -> x.isFairAt(index) ? 1 : 0);
            }
        });
        Doc.says(NO_THROW, () -> Missing.throwIndex((x, index) -> x.isFairAt(index) ? 1 : 0));
    }

    private static void throwsOf() {
        Doc.promise(22);
        Doc.says("Returns the number of throws of the player in the record.", () -> {
            Audit x = new Audit();
            Check.is("with two dice", 9, () -> x.throwsOf(0));
            Check.is("with one die", 8, () -> x.throwsOf(1));
            Check.is("with the other die", 2, () -> x.throwsOf(2));
            Check.is("none", 0, () -> Halls.loaded(Halls.HALL + "player a;").throwsOf(0));
            Check.is("300", 300, () -> Halls.manyThrows("die 1 1;").throwsOf(0));
            Audit y = Halls.full();
            Check.is("the first of six players", 60, () -> y.throwsOf(0));
            Check.is("the last of six players", 48, () -> y.throwsOf(5));
            Audit z = PairPromises.neighbours();
            Check.is("the last face of the last die", 9, () -> z.throwsOf(0));
            Check.is("none beside it", 0, () -> z.throwsOf(1));
            Check.is("the last face of all", 1, () -> z.throwsOf(5));
        });
        Doc.says(NO_PLAYER, () -> Missing.player(Audit::throwsOf));
    }

    private static void total() {
        Doc.promise(23);
        Doc.says("Returns the total of the player.", () -> {
            Audit x = new Audit();
            Check.is("with two dice", 41, () -> x.total(0));
            Check.is("with one die", 31, () -> x.total(1));
            Check.is("with the other die", 2, () -> x.total(2));
            Check.is("no throws", 0, () -> Halls.loaded(Halls.HALL + "player a;").total(0));
            Audit y = PairPromises.neighbours();
            Check.is("the last face of the last die", 36 + 2 + 48, () -> y.total(0));
            Check.is("none beside it", 0, () -> y.total(1));
            Check.is("the last face of all", 12, () -> y.total(5));
            Check.is("the greatest", 3600, () -> Halls.manyThrows("die 0 0 0 0 0 0 0 0 0 0 0 1;").total(0));
        });
        Doc.says(NO_PLAYER, () -> Missing.player(Audit::total));
    }

    private static void meanFace() {
        Doc.promise(24);
        Doc.says("Returns the total of the player converted to double, divided by the number of the player's throws converted to double", () -> {
            Audit x = new Audit();
            Check.is("41 by 9", 41.0 / 9.0, () -> x.meanFace(0));
            Check.is("31 by 8", 3.875, () -> x.meanFace(1));
            Check.is("2 by 2", 1.0, () -> x.meanFace(2));
            Check.is("3600 by 300", 12.0, () -> Halls.manyThrows("die 0 0 0 0 0 0 0 0 0 0 0 1;").meanFace(0));
        });
        Doc.says("0.0 if there are none.", () -> {
            Audit x = Halls.loaded(Halls.HALL + "die 1 1;player a;player b;throw b 0 3;");
            Check.is("none", 0.0, () -> x.meanFace(0));
            Check.is("none, and the sign is +", Double.doubleToLongBits(0.0), () -> Double.doubleToLongBits(x.meanFace(0)));
            x.throwDie(0, 0, 1);
            x.undo();
            Check.is("none any more", 0.0, () -> x.meanFace(0));
        });
        Doc.says(NO_PLAYER, () -> Missing.player(Audit::meanFace));
    }

    private static void rankOf() {
        Doc.promise(25);
        Doc.says("Returns the rank of the player.", () -> {
            Audit x = Halls.loaded(Halls.HALL + "die 0 1;player a;player b;player c;throw b 0 1;throw c 0 2;");
            Check.is("the last rank", 2, () -> x.rankOf(0));
            Check.is("the middle rank", 1, () -> x.rankOf(1));
            Check.is("the first rank", 0, () -> x.rankOf(2));
            x.throwDie(1, 0, 2);
            Check.is("after more throws", 0, () -> x.rankOf(1));
            Check.is("a single player", 0, () -> Halls.loaded(Halls.HALL + "player a;").rankOf(0));
        });
        Doc.says(NO_PLAYER, () -> Missing.player(Audit::rankOf));
    }

    private static void playerWithRank() {
        Doc.promise(26);
        Doc.says("`rank`: a rank, from 0", () -> {
            Audit x = Halls.loaded(Halls.HALL + "die 0 1;" + Halls.SIX_PLAYERS + "throw f 0 1;");
            Check.is("the first rank", 5, () -> x.playerWithRank(0));
            Check.is("the second rank", 0, () -> x.playerWithRank(1));
            Check.is("the last rank", 4, () -> x.playerWithRank(5));
        });
        Doc.says("Returns the player with this rank.", () -> {
            Audit x = Halls.loaded(Halls.HALL + "die 0 1;player a;player b;player c;throw b 0 1;throw c 0 2;");
            Check.is("rank 0", 2, () -> x.playerWithRank(0));
            Check.is("rank 1", 1, () -> x.playerWithRank(1));
            Check.is("rank 2", 0, () -> x.playerWithRank(2));
        });
        Doc.says("Throws `NoSuchElementException` if there is no such rank", () -> {
            for (Audit hall : Halls.all()) {
                int count = hall.playerCount();
                for (int rank : new int[] {count, count + 1, 7, 36, -1, -6, Integer.MIN_VALUE, Integer.MAX_VALUE}) {
                    Check.noElement("rank " + rank + " of " + count, hall, () -> hall.playerWithRank(rank));
                }
                if (count > 0) {
                    Check.is("the last rank of " + count, count - 1, () -> hall.rankOf(hall.playerWithRank(count - 1)));
                }
            }
        });
    }

    private static void longestRun() {
        Doc.promise(27);
        Doc.says("Returns the greatest number of throws of a run of the player", () -> {
            Audit x = new Audit();
            Check.is("at the beginning: 6 6 6 5 4 4 4 2 4", 3, () -> x.longestRun(0));
            Check.is("at the end: 4 4 4 3 4 4 4 4", 4, () -> x.longestRun(1));
            Check.is("all throws: 1 1", 2, () -> x.longestRun(2));
            Check.is("one throw", 1, () -> Halls.loaded(Halls.HALL + "die 1 1;player a;throw a 0 1;").longestRun(0));
            Check.is("300 throws", 300, () -> Halls.manyThrows("die 0 1;").longestRun(0));
            Check.is("60 throws with six dice, and others between them", 60, () -> Halls.full().longestRun(0));
            Audit y = PairPromises.neighbours();
            Check.is("with the last die: 12 12 12 1 1 12 12 12 12", 4, () -> y.longestRun(0));
            Check.is("none of the player before", 0, () -> y.longestRun(1));
            Check.is("the last player with the last die", 1, () -> y.longestRun(5));
        });
        Doc.says("0 if the player has no throws.", () -> {
            Audit x = Halls.loaded(Halls.HALL + "die 0 1;player a;player b;throw b 0 3;");
            Check.is("none", 0, () -> x.longestRun(0));
            Check.is("no dice", 0, () -> Halls.loaded(Halls.HALL + "player a;").longestRun(0));
        });
        Doc.says(NO_PLAYER, () -> Missing.player(Audit::longestRun));
    }
}
