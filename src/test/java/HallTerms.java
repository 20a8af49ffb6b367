/** Sections 1 to 3 of the terms: dice and throws, players and records, the test. */
final class HallTerms {
    private HallTerms() {
    }

    static void test() {
        dice();
        seeds();
        picks();
        players();
        record();
        sums();
        ranks();
        runs();
        scores();
        suspicion();
    }

    private static void wrong(String text, int code, int position) {
        Audit x = new Audit();
        Halls.failLoad(x, text);
        Check.is("code of " + text, code, x::errorCode);
        Check.is("position of " + text, position, x::errorPosition);
    }

    private static void dice() {
        Doc.terms(1);
        Doc.says("The hall has a seed (0 to 65536).", () -> {
            Check.is("the least", 0, () -> Halls.loaded("hall 0 1 1;").seed());
            Check.is("the greatest", 65536, () -> Halls.loaded("hall 65536 1 1;").seed());
            wrong("hall 65537 1 1;", 2, 5);
            Audit x = new Audit();
            Check.badArgument("too small", x, () -> x.setSeed(-1));
            Check.badArgument("too large", x, () -> x.setSeed(65537));
        });
        Doc.says("There are at most 6 dice, numbered from 0 in the order of the input text.", () -> {
            String six = Halls.HALL + "die 1 1;die 2 2 2;die 3 3 3 3;die 4 4 4 4 4;die 5 5 5 5 5 5;die 6 6 6 6 6 6 6;";
            Audit x = Halls.loaded(six);
            Check.is("six", 6, x::dieCount);
            for (int i = 0; i < 6; i++) {
                int die = i;
                Check.is("faces of die " + die, die + 2, () -> x.faces(die));
                Check.is("weight of die " + die, die + 1, () -> x.weightOf(die, 1));
            }
            wrong(six + "die 1 1;", 5, six.length());
        });
        Doc.says("A die has 2 to 12 faces, numbered from 1, and each face has a weight (0 to 9)", () -> {
            Audit x = Halls.loaded(Halls.HALL + "die 0 9;die 9 0 9 0 9 0 9 0 9 0 9 0;");
            Check.is("the least number of faces", 2, () -> x.faces(0));
            Check.is("the greatest number of faces", 12, () -> x.faces(1));
            Check.is("face 1", 0, () -> x.weightOf(0, 1));
            Check.is("face 2", 9, () -> x.weightOf(0, 2));
            Check.is("face 12", 0, () -> x.weightOf(1, 12));
            Check.badArgument("face 0", x, () -> x.weightOf(0, 0));
            Check.badArgument("face 3 of 2", x, () -> x.weightOf(0, 3));
            Check.badArgument("the weight 10", x, () -> x.setWeight(0, 1, 10));
            Check.badArgument("the weight -1", x, () -> x.setWeight(0, 1, -1));
            String six = " die 0 1 2 3 4 5 6 7 8 9 8 7 die 1 2 3 4 5 6 7 8 9 8 7 6 die 2 3 4 5 6 7 8 9 8 7 6 5"
                + " die 3 4 5 6 7 8 9 8 7 6 5 4 die 4 5 6 7 8 9 8 7 6 5 4 3 die 5 6 7 8 9 8 7 6 5 4 3 2";
            Audit y = Halls.loaded("hall 1 1 1" + six.replace(" die", ";die") + ";");
            Check.same("six dice of twelve faces", "1 1 1" + six, Halls.state(y));
            y.setWeight(0, 1, 9);
            y.setWeight(5, 12, 9);
            Check.same("the first face of all and the last", "1 1 1" + six.replace("die 0", "die 9").replace("3 2", "3 9"), Halls.state(y));
            wrong(Halls.HALL + "die 1;", 1, 16);
            wrong(Halls.HALL + "die 9 0 9 0 9 0 9 0 9 0 9 0 9;", 5, 39);
            wrong(Halls.HALL + "die 10 1;", 2, 15);
        });
        Doc.says("at least one weight is greater than 0.", () -> {
            Check.is("the first of two", 1, () -> Halls.loaded(Halls.HALL + "die 1 0;").dieCount());
            Check.is("the last of twelve", 1, () -> Halls.loaded(Halls.HALL + "die 0 0 0 0 0 0 0 0 0 0 0 1;").dieCount());
            wrong(Halls.HALL + "die 0 0;", 6, 18);
            Audit x = Halls.loaded(Halls.HALL + "die 1 0;");
            Check.badState("the last weight", x, () -> x.setWeight(0, 1, 0));
        });
    }

    private static void seeds() {
        Doc.says("The seed becomes the remainder of 75 * seed + 74 divided by 65537.", () -> {
            int toZero = Halls.before(0);
            // 873 is the first seed that wraps around; 65536 is -1, and 75 * -1 + 74 is -1 again.
            int[][] steps = {{0, 74}, {1, 149}, {872, 65474}, {873, 12}, {874, 87}, {65535, 65461}, {65536, 65536}, {toZero, 0}};
            for (int[] step : steps) {
                Audit x = Halls.loaded("hall " + step[0] + " 1 0;die 0 1;player a;");
                x.throwDie(0, 0, 1);
                Check.is("throwDie from " + step[0], step[1], x::seed);
                Check.is("throw from " + step[0], step[1],
                    () -> Halls.loaded("hall " + step[0] + " 1 0;die 0 1;player a;throw a 0 1;").seed());
                x.audit();
                x.setSeed(step[0]);
                x.absolve();
                Check.is("absolve from " + step[0], step[1], x::seed);
            }
            Audit y = Halls.loaded("hall 0 1 0;die 1 1;player a;throw a 0 3;");
            Check.is("three throws from 0", ((74 * 75 + 74) * 75 + 74) % 65537, y::seed);
        });
    }

    private static void picks() {
        // The seed 0 becomes 74, the seed of a full turn becomes 0, and 65536 stays.
        int toZero = Halls.before(0);
        Doc.says("The pick is the remainder of the new seed divided by the sum of the weights of all faces.", () -> {
            showsFrom(0, "9 9 9 9 9 9 9 9 2", 1, "the sum 74, the pick 0");
            showsFrom(0, "1 9 9 9 9 9 9 9 9", 2, "the sum 73, the pick 1");
            showsFrom(0, "9 9 9 9 9 9 9 9 2 1", 10, "the sum 75, the pick 74");
            showsFrom(0, "9 9 1", 2, "the sum 19, the pick 17");
            showsFrom(0, "9 8 2", 3, "the sum 19, the pick 17, another die");
            showsFrom(0, "0 1", 2, "the sum 1, the pick 0");
            showsFrom(toZero, "1 1 1 1 1 1 1 1 1 1 1 1", 1, "the seed 0, the pick 0");
            showsFrom(65536, "9 9 9 9 9 9 9 9 9 9 9 9", 65536 % 108 / 9 + 1, "the greatest sum, 108");
            showsFrom(65536, "1 1", 1, "an even seed, the sum 2");
            showsFrom(1, "1 1", 2, "an odd seed, the sum 2");
        });
        Doc.says("The die shows the first face such that the sum of the weights of the faces up to and including it is greater than the pick.", () -> {
            showsFrom(toZero, "1 1", 1, "the pick 0, no face without weight");
            showsFrom(toZero, "0 0 1 1", 3, "the pick 0 behind faces without weight");
            showsFrom(0, "9 9 9 9 9 9 9 9 2 1 0 0", 10, "the greatest pick before faces without weight");
            showsFrom(0, "9 9 9 9 9 9 9 9 0 0 2 1", 12, "the pick is the sum without the last face");
            showsFrom(0, "9 9 9 9 9 9 9 9 0 0 3 0", 11, "behind faces without weight");
            // 74 % 12 is 2.
            showsFrom(0, "2 0 9 1", 3, "the pick is the sum of the faces before");
            showsFrom(0, "3 8 1", 1, "the pick is one less than the sum");
            showsFrom(0, "0 0 0 0 0 0 0 0 0 0 0 1", 12, "the last face of twelve");
            showsFrom(0, "1 0 0 0 0 0 0 0 0 0 0 0", 1, "the first face of twelve");
        });
        Doc.says("A fair throw works in the same way, but as if all faces had the weight 1.", () -> {
            for (int seed : new int[] {0, 1, 2, 3, 873, toZero, 65535, 65536}) {
                Audit x = Halls.loaded("hall 1 1 0;die 9 0 0;player a;throw a 0 3;audit;");
                x.setSeed(seed);
                int first = Halls.next(seed);
                int second = Halls.next(first);
                int third = Halls.next(second);
                Check.is("the sum from " + seed, first % 3 + second % 3 + third % 3 + 3, x::absolve);
                Check.same("the faces from " + seed, " 00:" + (first % 3 + 1) + "* 00:" + (second % 3 + 1) + "* 00:" + (third % 3 + 1) + "*",
                    Halls.record(x));
                Check.is("the seed from " + seed, third, x::seed);
            }
        });
        Doc.says("A die is balanced if all its weights are equal.", () -> {
            Audit x = Halls.loaded(Halls.HALL + "die 9 9;die 1 1 1 1 1 1 1 1 1 1 1 1;die 2 1 1;die 1 1 2;die 1 2 1;die 0 1;");
            boolean[] due = {true, true, false, false, false, false};
            for (int i = 0; i < due.length; i++) {
                int die = i;
                Check.is("die " + die, due[die] ? 1 : 0, () -> x.isBalanced(die) ? 1 : 0);
            }
            x.setWeight(1, 12, 2);
            Check.no("the last face of twelve", () -> x.isBalanced(1));
            x.setWeight(5, 1, 1);
            Check.yes("after setWeight", () -> x.isBalanced(5));
        });
    }

    private static void showsFrom(int seed, String weights, int face, String what) {
        Audit x = Halls.loaded("hall " + seed + " 1 0;die " + weights + ";player a;");
        Check.is(what + ", nextFace", face, () -> x.nextFace(0));
        Check.is(what + ", throwDie", face, () -> x.throwDie(0, 0, 1));
        Check.is(what + ", throw", face, () -> Halls.loaded("hall " + seed + " 1 0;die " + weights + ";player a;throw a 0 1;").faceAt(0));
    }

    private static void players() {
        Doc.terms(2);
        Doc.says("There are at most 6 players, numbered from 0.", () -> {
            Audit x = Halls.loaded(Halls.HALL + Halls.SIX_PLAYERS);
            Check.is("six", 6, x::playerCount);
            for (int i = 0; i < 6; i++) {
                int player = i;
                Check.is("player " + player, 'a' + player, () -> x.nameByte(player, 0));
            }
            wrong(Halls.HALL + Halls.SIX_PLAYERS + "player g;", 5, 65);
        });
        Doc.says("A player has a name of 1 to 4 letters", () -> {
            Audit x = Halls.loaded(Halls.HALL + "player z;player abcd;");
            Check.same("one letter", "z", Halls.name(x, 0));
            Check.same("four letters", "abcd", Halls.name(x, 1));
            wrong(Halls.HALL + "player abcde;", 2, 18);
            wrong(Halls.HALL + "player ;", 1, 18);
        });
        Doc.says("all names are different.", () -> {
            Audit x = Halls.loaded(Halls.HALL + "player ab;player a;player abc;player b;player ba;player abcd;");
            Check.same("one begins with another", "1 1 1 ab a abc b ba abcd", Halls.state(x));
            wrong(Halls.HALL + "player a;player ab;player a;", 3, 37);
            wrong(Halls.HALL + "player abcd;player abcd;", 3, 30);
        });
    }

    private static void record() {
        Doc.says("The record is the list of all throws, with at most 300 throws, in the order in which they were made.", () -> {
            Audit x = Halls.loaded(Halls.STRICT + "die 0 1;die 1 0;player a;player b;throw b 0 1;throw a 1 2;");
            x.throwDie(0, 0, 1);
            x.throwDie(1, 1, 1);
            Check.same("the order", " 10:2 01:1 01:1 00:2 11:1", Halls.record(x));
            Audit y = Halls.manyThrows("die 0 1;");
            Check.is("300", 300, y::throwCount);
            Check.badState("301 by throwDie", y, () -> y.throwDie(0, 0, 1));
            String text = Halls.STRICT + "die 0 1;player a;" + "throw a 0 50;".repeat(6);
            wrong(text + "throw a 0 1;", 6, text.length() + 11);
            y.audit();
            y.absolve();
            Check.is("a penance in a full record", 300, y::throwCount);
        });
        Doc.says("A throw in the record has a player, a die and a face, and it is marked if it was a fair throw.", () -> {
            Audit x = Halls.loaded(Halls.STRICT + "die 0 1;die 0 0 1;player a;player b;throw b 1 1;throw a 0 1;audit;absolve;");
            int face = Halls.next(Halls.next(Halls.next(1))) % 3 + 1;
            Check.same("a fair throw behind another", " 00:2 11:" + face + "*", Halls.record(x));
        });
    }

    private static void sums() {
        Doc.says("The frequency of a face is the number of throws in the record with a player, a die and this face.", () -> {
            Audit x = new Audit();
            int[] due = {0, 0, 0, 2, 1, 3};
            for (int i = 0; i < due.length; i++) {
                int face = i + 1;
                Check.is("face " + face, due[i], () -> x.frequency(0, 0, face));
            }
            Check.is("the same face of another die", 2, () -> x.frequency(0, 1, 4));
            Check.is("the same face of another player", 7, () -> x.frequency(1, 1, 4));
            x.absolve();
            Check.is("fair throws count, others are removed", 2, () -> x.frequency(1, 1, 4));
        });
        Doc.says("The total of a player is the sum of the faces of the player's throws in the record.", () -> {
            Audit x = new Audit();
            Check.is("over two dice", 6 + 6 + 6 + 5 + 4 + 4 + 4 + 2 + 4, () -> x.total(0));
            x.absolve();
            Check.is("after a penance", 20, () -> x.total(1));
            Check.is("no throws", 0, () -> Halls.loaded(Halls.HALL + "player a;").total(0));
        });
    }

    private static void ranks(String what, Audit x, int... order) {
        for (int i = 0; i < order.length; i++) {
            int rank = i;
            Check.is(what + ", player " + order[i], rank, () -> x.rankOf(order[rank]));
            Check.is(what + ", rank " + rank, order[rank], () -> x.playerWithRank(rank));
        }
    }

    private static void ranks() {
        Doc.says("The players are ranked by descending total, and with equal totals by their names in dictionary order"
            + " (a name comes before a longer name that begins with it)", () -> {
            ranks("the first state", new Audit(), 0, 1, 2);
            ranks("by total", Halls.loaded(Halls.HALL + "die 0 0 1;player a;player b;player c;throw b 0 3;throw c 0 9;throw a 0 5;"), 2, 0, 1);
            ranks("one more", Halls.loaded(Halls.HALL + "die 1 0;player a;player b;throw a 0 3;throw b 0 4;"), 1, 0);
            ranks("the greatest total", Halls.loaded(Halls.HALL + "die 0 0 0 0 0 0 0 0 0 0 0 1;player a;player b;"
                + "throw b 0 50;".repeat(6)), 1, 0);
            ranks("by name", Halls.loaded(Halls.HALL + "player b;player abc;player ab;player aac;player a;player abcd;"), 4, 3, 2, 1, 5, 0);
            ranks("the last letter", Halls.loaded(Halls.HALL + "player abcz;player abcy;"), 1, 0);
            ranks("a longer name before a shorter one", Halls.loaded(Halls.HALL + "player b;player aaaa;player z;player yzzz;"), 1, 0, 3, 2);
            // Two throws of the face 3 and three of the face 2 have the same total.
            ranks("by total and name", Halls.loaded(Halls.HALL + "die 0 0 1;die 0 1;player zz;player z;player a;"
                + "throw zz 0 2;throw z 1 3;throw a 1 1;"), 1, 0, 2);
        });
        Doc.says("the rank is the position in this order, from 0.", () -> {
            Audit x = Halls.loaded(Halls.HALL + "player f;player e;player d;player c;player b;player a;");
            ranks("the order of the names", x, 5, 4, 3, 2, 1, 0);
            Check.noElement("there is no rank -1", x, () -> x.playerWithRank(-1));
            Check.noElement("there is no rank 6", x, () -> x.playerWithRank(6));
        });
    }

    private static void runs() {
        Doc.says("A run of a player is a number of throws of the player with the same face, one directly after the other among all throws"
            + " of this player, whatever the dice.", () -> {
            Audit x = Halls.loaded(Halls.HALL + "die 0 1;die 0 1 0;die 1 0;player a;player b;player c;"
                + "throw a 0 2;throw b 2 1;throw a 1 3;throw b 2 1;throw a 2 4;throw a 0 1;throw c 0 1;");
            Check.is("over two dice and other players", 5, () -> x.longestRun(0));
            Check.is("over other players", 2, () -> x.longestRun(1));
            Check.is("one throw", 1, () -> x.longestRun(2));
            Audit y = Halls.loaded(Halls.HALL + "die 0 1;die 1 0;player a;throw a 0 2;throw a 1 1;throw a 0 2;");
            Check.is("not over another face", 2, () -> y.longestRun(0));
            Audit z = Halls.loaded(Halls.HALL + "die 0 1;die 1 0;player a;throw a 0 1;throw a 1 1;throw a 0 1;");
            Check.is("every face another one", 1, () -> z.longestRun(0));
        });
    }

    /** Two faces that have been shown so many times. */
    private static Audit twoFaces(int ones, int twos) {
        Audit x = Halls.loaded(Halls.STRICT + "die 1 0;player a;throw a 0 " + ones + ";");
        x.setWeight(0, 2, 1);
        x.setWeight(0, 1, 0);
        x.throwDie(0, 0, twos);
        return x;
    }

    private static void scores() {
        Doc.terms(3);
        Doc.says("The score of the pair is the sum, over all faces, of the square of (s times the frequency of the face minus n),"
            + " divided by n * s and rounded down", () -> {
            // With two faces the score is the square of the difference, divided by n.
            Check.is("1 and 1, the least score", 0, () -> twoFaces(1, 1).score(0, 0));
            Check.is("2 and 1: 1 by 3", 0, () -> twoFaces(2, 1).score(0, 0));
            Check.is("3 and 1: just 1", 1, () -> twoFaces(3, 1).score(0, 0));
            Check.is("5 and 2: 9 by 7", 1, () -> twoFaces(5, 2).score(0, 0));
            Check.is("9 and 3: just 3", 3, () -> twoFaces(9, 3).score(0, 0));
            Check.is("10 and 4: 36 by 14", 2, () -> twoFaces(10, 4).score(0, 0));
            Check.is("18 and 7: 121 by 25", 4, () -> twoFaces(18, 7).score(0, 0));
            Check.is("6 faces", 8, () -> new Audit().score(0, 0));
            Check.is("the greatest score", 3300, () -> Halls.manyThrows("die 0 0 0 0 0 0 0 0 0 0 0 1;").score(0, 0));
            Check.is("the greatest score of the first face", 3300, () -> Halls.manyThrows("die 1 0 0 0 0 0 0 0 0 0 0 0;").score(0, 0));
        });
        Doc.says("it is 0 if n is 0.", () -> {
            Check.is("no throws", 0, () -> Halls.loaded(Halls.HALL + "die 0 1;player a;").score(0, 0));
            Audit x = Halls.loaded(Halls.HALL + "die 0 1;die 0 1;player a;player b;throw a 0 5;");
            Check.is("another die's throws", 0, () -> x.score(0, 1));
            Check.is("another player's throws", 0, () -> x.score(1, 0));
            Check.is("no throws to come", 0, () -> x.scoreAfter(1, 1, 0));
            Check.is("one throw", 1, () -> x.scoreAfter(1, 1, 1));
        });
    }

    private static void suspicion() {
        Doc.says("A pair is suspicious if n is at least the minimum (1 to 99) of the hall and the score is greater than the threshold"
            + " (0 to 999) of the hall.", () -> {
            Audit x = Halls.loaded("hall 1 4 3;die 0 1;player a;throw a 0 4;");
            suspicious("n is the minimum, the score is just greater", x, true);
            x.setLimits(5, 3);
            suspicious("n is one less than the minimum", x, false);
            x.setLimits(4, 4);
            suspicious("the score is the threshold", x, false);
            x.setLimits(5, 4);
            suspicious("neither", x, false);
            x.setLimits(1, 0);
            suspicious("the least limits", x, true);
            suspicious("the least minimum and one throw", Halls.loaded("hall 1 1 0;die 0 1;player a;throw a 0 1;"), true);
            suspicious("the least threshold and the score 0", twoFaces(2, 1), false);
            suspicious("no throws", Halls.loaded("hall 1 1 0;die 0 1;player a;"), false);
            suspicious("the greatest limits, n 100 and the score 1000", Halls.loaded("hall 1 99 999;die 0 0 0 0 0 0 0 0 0 0 1;player a;"
                + "throw a 0 50;throw a 0 50;"), true);
            suspicious("the greatest threshold and the score 999", Halls.loaded("hall 1 99 999;die 0 0 0 0 0 0 0 0 0 1;player a;"
                + "throw a 0 50;throw a 0 50;throw a 0 11;"), false);
            suspicious("n 98, the greatest minimum", Halls.loaded("hall 1 99 0;die 0 1;player a;throw a 0 50;throw a 0 48;"), false);
            suspicious("n 99, the greatest minimum", Halls.loaded("hall 1 99 0;die 0 1;player a;throw a 0 50;throw a 0 49;"), true);
            wrong("hall 1 0 0;", 2, 7);
            wrong("hall 1 100 0;", 2, 7);
            wrong("hall 1 1 1000;", 2, 9);
        });
    }

    private static void suspicious(String what, Audit x, boolean due) {
        int count = due ? 1 : 0;
        Check.is(what, count, () -> x.isSuspicious(0, 0) ? 1 : 0);
        Check.is(what + ", the number", count, x::suspiciousPairs);
        Check.is(what + ", now", due ? 1 : 0, () -> x.throwsUntilSuspicious(0, 0) == 0 ? 1 : 0);
        Check.is(what + ", an audit", count, x::audit);
        x.undo();
    }
}
