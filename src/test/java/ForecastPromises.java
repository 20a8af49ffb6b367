/** Promises 43 to 47: what would be thrown, without throwing it. */
final class ForecastPromises {
    private static final String NO_DIE = "Throws `IndexOutOfBoundsException` if the die does not exist";
    private static final String NO_PAIR = "Throws `IndexOutOfBoundsException` if the player or the die does not exist";
    private static final String NO_COUNT = "Throws `IllegalArgumentException` if the number of throws is out of range";

    private ForecastPromises() {
    }

    static void test() {
        nextFace();
        faceAfter();
        throwsUntil();
        scoreAfter();
        throwsUntilSuspicious();
    }

    private static void nextFace() {
        Doc.promise(43);
        Doc.says("Returns the face that the die would show if it was thrown now.", () -> {
            Audit x = new Audit();
            Check.is("die 0", 6, () -> x.nextFace(0));
            Check.is("die 1", 4, () -> x.nextFace(1));
            Check.is("asked again", 6, () -> x.nextFace(0));
            Audit y = Halls.loaded("hall 0 1 1;die 1 1 1 1 1;die 0 0 3;die 2 0 3;");
            // The seed 0 becomes 74; 74 % 5 is 4 for die 0 and for die 2.
            Check.is("the last face", 5, () -> y.nextFace(0));
            Check.is("the only face with a weight", 3, () -> y.nextFace(1));
            Check.is("behind a face without weight", 3, () -> y.nextFace(2));
            y.setSeed(65536);
            Check.is("the greatest seed", 65536 % 5 + 1, () -> y.nextFace(0));
            y.setSeed(Halls.before(0));
            Check.is("the seed becomes 0", 1, () -> y.nextFace(0));
            Check.is("a full record", 2, () -> Halls.full().nextFace(5));
            Audit z = Halls.loaded("hall 0 1 1;die 9 9 9 9 9 9 9 9 9 9 9 9;die 1 1;die 0 1;");
            Check.is("behind a die of twelve faces", 1, () -> z.nextFace(1));
            Check.is("behind a die of two faces", 2, () -> z.nextFace(2));
        });
        Doc.says(NO_DIE, () -> Missing.die(Audit::nextFace));
    }

    private static void faceAfter() {
        Doc.promise(44);
        Doc.says("`count`: a number of throws, 1 to 200", () -> {
            Audit x = new Audit();
            int[] seeds = new int[201];
            seeds[0] = 23634;
            for (int made = 1; made <= 200; made++) {
                seeds[made] = Halls.next(seeds[made - 1]);
            }
            for (int made : new int[] {1, 2, 199, 200}) {
                Check.is(made + " throws", seeds[made] % 6 + 1, () -> x.faceAfter(0, made));
            }
        });
        Doc.says("Returns the face that the die would show in the last one of so many throws, if nothing else was thrown from now on.", () -> {
            Audit x = new Audit();
            int[] even = {6, 3, 4, 4, 4, 1, 3, 1, 1, 4, 2, 5, 2, 3, 6, 3, 1, 1, 5, 2};
            int[] loaded = {4, 4, 4, 4, 4, 2, 4, 2, 2, 4, 3, 4, 3, 4, 4, 4, 2, 2, 4, 3};
            for (int i = 0; i < even.length; i++) {
                int count = i + 1;
                Check.is("die 0 after " + count, even[i], () -> x.faceAfter(0, count));
                Check.is("die 1 after " + count, loaded[i], () -> x.faceAfter(1, count));
            }
            Check.is("a full record", 2, () -> Halls.full().faceAfter(5, 200));
        });
        Doc.says(NO_DIE, () -> Missing.die((x, die) -> x.faceAfter(die, 1)));
        Doc.says(NO_COUNT, () -> Missing.outOfRange(1, 200, (x, count) -> x.faceAfter(0, count)));
    }

    private static void throwsUntil() {
        Doc.promise(45);
        Doc.says("`face`: a face, from 1", () -> {
            Audit x = new Audit();
            Check.is("the first face", 6, () -> x.throwsUntil(0, 1));
            Check.is("the last face", 1, () -> x.throwsUntil(0, 6));
        });
        Doc.says("Returns the number of throws of the die, 1 to 200, with the last of which it would show this face for the first time", () -> {
            Audit x = new Audit();
            int[] due = {6, 11, 2, 3, 12, 1};
            for (int i = 0; i < due.length; i++) {
                int face = i + 1;
                Check.is("die 0, face " + face, due[i], () -> x.throwsUntil(0, face));
            }
            Check.is("die 1, face 2", 6, () -> x.throwsUntil(1, 2));
            Audit y = Halls.loaded("hall " + seedWithFirstThrow(200) + " 1 1;die 1 9 9 9 9 9 9 9 9 9 9 9;");
            Check.is("just 200 throws", 200, () -> y.throwsUntil(0, 1));
            y.setSeed(seedWithFirstThrow(199));
            Check.is("199 throws", 199, () -> y.throwsUntil(0, 1));
        });
        Doc.says("NONE if not within 200 throws.", () -> {
            Audit x = new Audit();
            Check.is("a face without weight", -1, () -> x.throwsUntil(1, 1));
            Audit y = Halls.loaded("hall " + seedWithFirstThrow(201) + " 1 1;die 1 9 9 9 9 9 9 9 9 9 9 9;");
            Check.is("201 throws", -1, () -> y.throwsUntil(0, 1));
            y.setSeed(65536);
            Check.is("the seed that stays as it is", -1, () -> y.throwsUntil(0, 1));
        });
        Doc.says(NO_DIE, () -> Missing.die((x, die) -> x.throwsUntil(die, 1)));
        Doc.says("Throws `IllegalArgumentException` if the face is not a face of the die", () -> Missing.face(Audit::throwsUntil));
    }

    /** A seed with which a face with the weight 1 of 100, the first one, is first shown by this throw. */
    private static int seedWithFirstThrow(int due) {
        for (int start = 0; start < 65536; start++) {
            int seed = start;
            int made = 0;
            do {
                seed = Halls.next(seed);
                made++;
            } while (seed % 100 != 0 && made <= due);
            if (made == due && seed % 100 == 0) {
                return start;
            }
        }
        throw new IllegalStateException("no such seed");
    }

    private static void scoreAfter() {
        Doc.promise(46);
        Doc.says("`count`: a number of throws, 0 to 50", () -> {
            Audit x = Halls.loaded(Halls.STRICT + "die 0 1;player a;player b;throw a 0 3;");
            Check.is("none", 3, () -> x.scoreAfter(0, 0, 0));
            Check.is("one", 4, () -> x.scoreAfter(0, 0, 1));
            Check.is("fifty", 53, () -> x.scoreAfter(0, 0, 50));
            Check.is("none by a pair without throws", 0, () -> x.scoreAfter(1, 0, 0));
            Check.is("fifty by a pair without throws", 50, () -> x.scoreAfter(1, 0, 50));
        });
        Doc.says("Returns the score of the pair if the player threw the die so many times now, also if the record would have more than 300 throws.", () -> {
            Audit x = new Audit();
            Check.is("no throw", 10, () -> x.scoreAfter(2, 0, 0));
            // Faces 1 1 6: 6 * (4 + 1) - 9 = 21 and 21 / 3 = 7; with 3: 6 * 6 - 16 = 20 and 20 / 4 = 5.
            Check.is("one throw", 7, () -> x.scoreAfter(2, 0, 1));
            Check.is("two throws", 5, () -> x.scoreAfter(2, 0, 2));
            Check.is("five times the face 4", 15, () -> x.scoreAfter(2, 1, 5));
            for (int times : new int[] {1, 7, 50}) {
                double foreseen = x.scoreAfter(1, 0, times);
                x.throwDie(1, 0, times);
                Check.is("as thrown " + times + " times", foreseen, () -> x.score(1, 0));
                x.undo();
            }
            Check.is("350 throws", 350, () -> Halls.manyThrows("die 0 1;").scoreAfter(0, 0, 50));
            Check.is("301 throws", 301, () -> Halls.manyThrows("die 0 1;").scoreAfter(0, 0, 1));
            Check.is("350 throws of twelve faces", 3850, () -> Halls.manyThrows("die 0 0 0 0 0 0 0 0 0 0 0 1;").scoreAfter(0, 0, 50));
        });
        Doc.says(NO_PAIR, () -> Missing.pair((x, player, die) -> x.scoreAfter(player, die, 1)));
        Doc.says(NO_COUNT, () -> Missing.outOfRange(0, 50, (x, count) -> x.scoreAfter(0, 0, count)));
    }

    /** Throws each die of each player one by one, with some limits, until the pair is suspicious. */
    private static void asThrown(Audit x) {
        for (int pair = 0; pair < x.playerCount() * x.dieCount(); pair++) {
            int player = pair / x.dieCount();
            int die = pair % x.dieCount();
            x.setLimits(7 + pair % 3, 2 + pair % 5);
            int seed = 1000 * pair;
            x.setSeed(seed);
            int foreseen = x.throwsUntilSuspicious(player, die);
            int made = 0;
            while (made < 50 && !x.isSuspicious(player, die)) {
                x.throwDie(player, die, 1);
                made++;
            }
            int due = x.isSuspicious(player, die) ? made : DiceAudit.NONE;
            Check.is("player " + player + ", die " + die, due, () -> foreseen);
        }
    }

    private static void throwsUntilSuspicious() {
        Doc.promise(47);
        Doc.says("Returns the smallest number of throws, 0 to 50, after which the pair would be suspicious if the player threw the die now,"
            + " also if the record would have more than 300 throws", () -> {
            Audit x = new Audit();
            Check.is("suspicious already", 0, () -> x.throwsUntilSuspicious(0, 0));
            Check.is("four throws more", 4, () -> x.throwsUntilSuspicious(2, 0));
            Audit y = Halls.loaded("hall 1 50 0;die 0 1;player a;player b;throw a 0 1;");
            Check.is("just 50 throws", 50, () -> y.throwsUntilSuspicious(1, 0));
            Check.is("49 throws", 49, () -> y.throwsUntilSuspicious(0, 0));
            y.setLimits(1, 49);
            Check.is("the score 50", 50, () -> y.throwsUntilSuspicious(1, 0));
            y.setLimits(2, 0);
            Check.is("one throw", 1, () -> y.throwsUntilSuspicious(0, 0));
            Audit z = Halls.manyThrows("die 0 1;");
            z.setLimits(99, 340);
            Check.is("341 throws", 41, () -> z.throwsUntilSuspicious(0, 0));
            z.setLimits(99, 349);
            Check.is("350 throws", 50, () -> z.throwsUntilSuspicious(0, 0));
            Check.is("the face 12 counts", 3,
                () -> Halls.loaded("hall 1 3 0;die 0 0 0 0 0 0 0 0 0 0 0 1;player a;").throwsUntilSuspicious(0, 0));
            asThrown(new Audit());
            asThrown(PairPromises.neighbours());
        });
        Doc.says("NONE if there is none.", () -> {
            Audit x = Halls.loaded("hall 1 51 0;die 0 1;player a;player b;throw a 0 1;");
            Check.is("51 throws would do", -1, () -> x.throwsUntilSuspicious(1, 0));
            Check.is("50 more of 51", 50, () -> x.throwsUntilSuspicious(0, 0));
            x.setLimits(1, 50);
            Check.is("the score 51 is too far", -1, () -> x.throwsUntilSuspicious(1, 0));
            Audit y = Halls.manyThrows("die 0 1;");
            y.setLimits(99, 350);
            Check.is("the score 351 is too far", -1, () -> y.throwsUntilSuspicious(0, 0));
        });
        Doc.says(NO_PAIR, () -> Missing.pair(Audit::throwsUntilSuspicious));
    }
}
