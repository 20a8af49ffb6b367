/** Promises 29 to 37: the pairs and the frequency test. */
final class PairPromises {
    private static final String NO_PAIR = "Throws `IndexOutOfBoundsException` if the player or the die does not exist";
    private static final String ALWAYS_12 = "die 0 0 0 0 0 0 0 0 0 0 0 1;";
    /** Two dice of two faces, each of which shows always the same face, the last one or the first one. */
    private static final String TWO_DICE = Halls.STRICT + "die 0 1;die 1 0;player a;player b;";

    private PairPromises() {
    }

    static void test() {
        throwsOfPair();
        frequency();
        commonFace();
        facesSeen();
        latestThrow();
        score();
        isSuspicious();
        suspiciousPairs();
        worstPair();
    }

    private static void firstState(Missing.PairCall call, int... due) {
        Audit x = new Audit();
        for (int i = 0; i < due.length; i++) {
            int player = i / 2;
            int die = i % 2;
            Check.is("player " + player + " and die " + die, due[i], () -> call.answer(x, player, die));
        }
    }

    /** The only throw shows the last face of the last pair that there can be. */
    private static Audit lastPair() {
        return Halls.loaded(Halls.STRICT + "die 0 1;".repeat(5) + ALWAYS_12 + Halls.SIX_PLAYERS + "throw f 5 1;");
    }

    /** The last face of one pair stands beside the first face of the next one: 0 0 and 0 1, and 0 5 and 1 0. */
    static Audit neighbours() {
        return Halls.loaded(Halls.STRICT + ALWAYS_12 + "die 1 0;".repeat(4) + ALWAYS_12 + Halls.SIX_PLAYERS
            + "throw a 0 3;throw a 1 2;throw a 5 4;throw f 5 1;");
    }

    /** A die of three faces that has shown its faces so many times. */
    private static Audit shown(int ones, int twos, int threes) {
        Audit x = Halls.loaded(Halls.STRICT + "die 1 0 0;player a;" + times(ones));
        x.setWeight(0, 2, 1);
        x.setWeight(0, 1, 0);
        throwSome(x, twos);
        x.setWeight(0, 3, 1);
        x.setWeight(0, 2, 0);
        throwSome(x, threes);
        return x;
    }

    private static String times(int count) {
        return count == 0 ? "" : "throw a 0 " + count + ";";
    }

    private static void throwSome(Audit x, int count) {
        if (count > 0) {
            x.throwDie(0, 0, count);
        }
    }

    private static void throwsOfPair() {
        Doc.promise(29);
        Doc.says("Returns the number of throws of the pair in the record.", () -> {
            firstState(Audit::throwsOfPair, 6, 3, 0, 8, 2, 0);
            Check.is("300", 300, () -> Halls.manyThrows("die 0 1;").throwsOfPair(0, 0));
            Check.is("the last pair", 1, () -> lastPair().throwsOfPair(5, 5));
            Check.is("the pair before it", 0, () -> lastPair().throwsOfPair(5, 4));
            Check.is("a pair between two others", 2, () -> neighbours().throwsOfPair(0, 1));
            Check.is("a pair beside another's face 1", 3, () -> neighbours().throwsOfPair(0, 0));
            Check.is("no throws beside the last die of another player", 0, () -> neighbours().throwsOfPair(1, 0));
        });
        Doc.says(NO_PAIR, () -> Missing.pair(Audit::throwsOfPair));
    }

    private static void frequency() {
        Doc.promise(30);
        Doc.says("`face`: a face, from 1", () -> {
            Audit x = shown(3, 0, 2);
            Check.is("the first face", 3, () -> x.frequency(0, 0, 1));
            Check.is("the last face", 2, () -> x.frequency(0, 0, 3));
            Check.is("the face 12 of the last pair", 1, () -> lastPair().frequency(5, 5, 12));
            Check.is("the face 11 of the last pair", 0, () -> lastPair().frequency(5, 5, 11));
        });
        Doc.says("Returns the frequency of the face.", () -> {
            firstState((x, player, die) -> x.frequency(player, die, 4), 2, 2, 0, 7, 0, 0);
            firstState((x, player, die) -> x.frequency(player, die, 1), 0, 0, 0, 0, 2, 0);
            Check.is("300", 300, () -> Halls.manyThrows(ALWAYS_12).frequency(0, 0, 12));
        });
        Doc.says(NO_PAIR, () -> {
            Missing.pair((x, player, die) -> x.frequency(player, die, 1));
            Missing.pair((x, player, die) -> x.frequency(player, die, 2));
        });
        Doc.says("Throws `IllegalArgumentException` if the face is not a face of the die",
            () -> Missing.face((x, die, face) -> x.frequency(0, die, face)));
    }

    private static void commonFace() {
        Doc.promise(31);
        Doc.says("Returns the face with the greatest frequency", () -> {
            firstState(Audit::commonFace, 6, 4, -1, 4, 1, -1);
            Check.is("the first face", 1, () -> shown(3, 2, 2).commonFace(0, 0));
            Check.is("the face between", 2, () -> shown(2, 3, 2).commonFace(0, 0));
            Check.is("the last face", 3, () -> shown(2, 2, 3).commonFace(0, 0));
            Check.is("one throw of the face 12", 12, () -> lastPair().commonFace(5, 5));
            Check.is("a pair beside another's face 12", 1, () -> neighbours().commonFace(0, 1));
            Check.is("the face 12 beside another pair's face 1", 12,
                () -> Halls.loaded(Halls.STRICT + ALWAYS_12 + "die 1 0;player a;throw a 0 1;throw a 1 2;").commonFace(0, 0));
        });
        Doc.says("the smallest number if several have it", () -> {
            Check.is("all of them", 1, () -> shown(2, 2, 2).commonFace(0, 0));
            Check.is("the first and the last", 1, () -> shown(2, 1, 2).commonFace(0, 0));
            Check.is("the second and the last", 2, () -> shown(0, 2, 2).commonFace(0, 0));
        });
        Doc.says("NONE if the pair has no throws.", () -> {
            Audit x = Halls.loaded(TWO_DICE + "throw a 0 2;throw b 1 2;");
            Check.is("another die's throws", -1, () -> x.commonFace(0, 1));
            Check.is("another player's throws", -1, () -> x.commonFace(1, 0));
            x.throwDie(0, 1, 1);
            x.undo();
            Check.is("no throws any more", -1, () -> x.commonFace(0, 1));
        });
        Doc.says(NO_PAIR, () -> Missing.pair(Audit::commonFace));
    }

    private static void facesSeen() {
        Doc.promise(32);
        Doc.says("Returns the number of faces of the die with a frequency greater than 0.", () -> {
            firstState(Audit::facesSeen, 3, 2, 0, 2, 1, 0);
            Check.is("none", 0, () -> shown(0, 0, 0).facesSeen(0, 0));
            Check.is("one that was thrown once", 1, () -> shown(0, 0, 1).facesSeen(0, 0));
            Check.is("all, the first and the last once", 3, () -> shown(1, 2, 1).facesSeen(0, 0));
            Check.is("the face 12", 1, () -> lastPair().facesSeen(5, 5));
            Check.is("a pair beside another's face 12", 1, () -> neighbours().facesSeen(0, 1));
            Check.is("the face 12 beside another pair's face 1", 1, () -> neighbours().facesSeen(0, 0));
            Check.is("no throws beside another player's face 12", 0, () -> neighbours().facesSeen(1, 0));
        });
        Doc.says(NO_PAIR, () -> Missing.pair(Audit::facesSeen));
    }

    private static void latestThrow() {
        Doc.promise(33);
        Doc.says("Returns the index of the latest throw of the pair in the record", () -> {
            firstState(Audit::latestThrow, 5, 16, -1, 13, 18, -1);
            Audit x = Halls.loaded(TWO_DICE + "throw a 0 1;throw b 1 1;throw a 1 1;");
            Check.is("the first throw of the record", 0, () -> x.latestThrow(0, 0));
            Check.is("the last throw of the record", 2, () -> x.latestThrow(0, 1));
            Check.is("the throw 300", 299, () -> Halls.manyThrows("die 0 1;").latestThrow(0, 0));
        });
        Doc.says("NONE if there is none.", () -> {
            Audit x = Halls.loaded(TWO_DICE + "throw a 0 2;throw b 1 2;");
            Check.is("another die's throws", -1, () -> x.latestThrow(0, 1));
            Check.is("another player's throws", -1, () -> x.latestThrow(1, 0));
            Halls.load(x, Halls.STRICT + "die 1 1;player a;");
            Check.is("the throws of an earlier text", -1, () -> x.latestThrow(0, 0));
        });
        Doc.says(NO_PAIR, () -> Missing.pair(Audit::latestThrow));
    }

    private static void score() {
        Doc.promise(34);
        Doc.says("Returns the score of the pair.", () -> {
            firstState(Audit::score, 8, 3, 0, 17, 10, 0);
            Check.is("of the last pair", 11, () -> lastPair().score(5, 5));
            Check.is("of a pair beside another's face 12", 2, () -> neighbours().score(0, 1));
            Check.is("of a pair beside another's face 1", 33, () -> neighbours().score(0, 0));
            Check.is("no throws beside another player's face 12", 0, () -> neighbours().score(1, 0));
        });
        Doc.says(NO_PAIR, () -> Missing.pair(Audit::score));
    }

    private static void isSuspicious() {
        Doc.promise(35);
        Doc.says("Returns whether the pair is suspicious.", () -> {
            firstState((x, player, die) -> x.isSuspicious(player, die) ? 1 : 0, 1, 0, 0, 1, 0, 0);
            Check.yes("the last pair", () -> lastPair().isSuspicious(5, 5));
            Check.no("no throws", () -> lastPair().isSuspicious(5, 4));
        });
        Doc.says(NO_PAIR, () -> Missing.pair((x, player, die) -> x.isSuspicious(player, die) ? 1 : 0));
    }

    private static void suspiciousPairs() {
        Doc.promise(36);
        Doc.says("Returns the number of suspicious pairs.", () -> {
            Check.is("of the first state", 2, () -> new Audit().suspiciousPairs());
            Check.is("no pairs", 0, () -> Halls.empty().suspiciousPairs());
            Check.is("no throws", 0, () -> Halls.loaded(TWO_DICE).suspiciousPairs());
            Check.is("the first pair alone", 1, () -> Halls.loaded(TWO_DICE + "throw a 0 1;").suspiciousPairs());
            Check.is("the last pair alone", 1, () -> lastPair().suspiciousPairs());
            Check.is("all 36 pairs", 36, () -> Halls.full().suspiciousPairs());
            Check.is("one after 36", 1, () -> Halls.shrunk().suspiciousPairs());
            Audit x = new Audit();
            x.forgive(0);
            Check.is("the queue is no matter", 2, x::suspiciousPairs);
        });
    }

    private static void worstPair() {
        Doc.promise(37);
        Doc.says("Returns 10 times the player plus the die of the pair with the greatest score", () -> {
            Check.is("of the first state", 11, () -> new Audit().worstPair());
            Check.is("the greatest score", 11, () -> Halls.loaded(TWO_DICE + "throw a 0 2;throw b 1 3;").worstPair());
            Check.is("the score 1", 10, () -> Halls.loaded(TWO_DICE + "throw b 0 1;").worstPair());
            Check.is("the last pair", 55, () -> lastPair().worstPair());
            Audit x = Halls.full();
            x.setLimits(99, 999);
            Check.is("the limits are no matter", 0, x::worstPair);
        });
        Doc.says("the smallest player, then the smallest die if several have it", () -> {
            Check.is("the smallest player", 1, () -> Halls.loaded(TWO_DICE + "throw b 0 2;throw a 1 2;").worstPair());
            Check.is("the smallest die", 10, () -> Halls.loaded(TWO_DICE + "throw b 1 2;throw b 0 2;").worstPair());
            Audit x = Halls.loaded(TWO_DICE + "throw b 0 1;");
            x.setWeight(0, 1, 1);
            x.setWeight(0, 2, 0);
            x.throwDie(1, 0, 1);
            Check.is("all pairs have the score 0", 0, x::worstPair);
        });
        Doc.says("NONE if there are no throws.", () -> {
            Check.is("dice and players", -1, () -> Halls.loaded(TWO_DICE).worstPair());
            Check.is("nothing at all", -1, () -> Halls.empty().worstPair());
            Audit x = Halls.loaded(TWO_DICE);
            x.throwDie(0, 0, 1);
            Check.is("one throw", 0, x::worstPair);
            x.undo();
            Check.is("no throws any more", -1, x::worstPair);
        });
    }
}
