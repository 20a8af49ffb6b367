/** Section 4 of the terms: offences and penances. */
final class QueueTerms {
    private static final String TEXT = OffencePromises.TEXT;

    private QueueTerms() {
    }

    static void test() {
        Doc.terms(4);
        order();
        audits();
        penances();
        sizes();
        removal();
        fairThrows();
    }

    private static void order() {
        Doc.says("The queue of offences is ordered by descending score, then by ascending player, then by ascending die", () -> {
            Audit x = Halls.loaded(TEXT + "throw b 1 4;throw b 0 4;throw a 1 4;throw a 0 2;throw c 2 3;throw b 2 2;audit;");
            Check.same("one audit", " offence 22=6 offence 01=4 offence 10=4 offence 11=4 offence 12=4 offence 00=2", Halls.queue(x));
            x.throwDie(2, 0, 4);
            x.throwDie(0, 2, 20);
            x.throwDie(2, 1, 1);
            x.audit();
            Check.same("two audits", " offence 02=40 offence 22=6 offence 01=4 offence 10=4 offence 11=4 offence 12=4 offence 20=4"
                + " offence 00=2 offence 21=1", Halls.queue(x));
            Audit y = Halls.loaded(TEXT + "throw b 1 4;audit;throw b 0 4;audit;throw a 2 2;audit;throw c 0 5;audit;throw c 1 3;audit;");
            Check.same("an audit for each", " offence 20=5 offence 02=4 offence 10=4 offence 11=4 offence 21=3", Halls.queue(y));
            StringBuilder all = new StringBuilder();
            for (int pair = 0; pair < 36; pair++) {
                all.append(" offence ").append(pair / 6).append(pair % 6).append("=8");
            }
            Check.same("36 with the same score", all.toString(), Halls.queue(Halls.full()));
        });
        Doc.says("the rank of an offence is its position in this order, from 0.", () -> {
            Audit x = Halls.loaded(TEXT + "throw a 0 1;throw b 0 3;throw c 0 2;audit;");
            int[] players = {1, 2, 0};
            for (int i = 0; i < players.length; i++) {
                int rank = i;
                Check.is("rank " + rank, players[rank], () -> x.offencePlayer(rank));
            }
            Check.noIndex("rank -1", x, () -> x.offencePlayer(-1));
            Check.noIndex("rank 3", x, () -> x.offencePlayer(3));
        });
    }

    private static void audits() {
        Doc.says("An audit adds an offence, with the present score, for each suspicious pair that has no offence in the queue.", () -> {
            Audit x = Halls.loaded("hall 1 3 3;die 0 1;die 0 1;player a;player b;throw a 0 4;throw b 0 3;throw b 1 4;");
            Check.is("two of three pairs with throws", 2, x::audit);
            Check.same("not the one that is not suspicious", " offence 00=4 offence 11=4", Halls.queue(x));
            Check.is("nothing new", 0, x::audit);
            x.throwDie(0, 0, 10);
            x.throwDie(1, 0, 1);
            Check.is("one new pair", 1, x::audit);
            Check.same("a score in the queue stays as it was", " offence 00=4 offence 10=4 offence 11=4", Halls.queue(x));
            x.forgive(0);
            Check.is("a forgiven pair", 1, x::audit);
            Check.same("with the score that it has now", " offence 00=14 offence 10=4 offence 11=4", Halls.queue(x));
            Check.is("no pairs", 0, () -> Halls.empty().audit());
            Check.is("a full queue", 0, () -> Halls.full().audit());
            Audit y = new Audit();
            y.setLimits(99, 999);
            Check.is("no pair is suspicious", 0, y::audit);
            Check.is("what is in the queue stays", 2, y::offenceCount);
        });
    }

    private static void penances() {
        Doc.says("To absolve is to take the first offence out of the queue.", () -> {
            Audit x = Halls.loaded(TEXT + "throw a 0 1;throw b 0 3;throw c 0 2;audit;");
            x.absolve();
            Check.same("the worst is gone", " offence 20=2 offence 00=1", Halls.queue(x));
            x.absolve();
            Check.same("the next is gone", " offence 00=1", Halls.queue(x));
            x.absolve();
            Check.same("the last is gone", "", Halls.queue(x));
            Audit y = Halls.full();
            y.absolve();
            Check.is("one of 36", 35, y::offenceCount);
            Check.is("the second is the first", 1, () -> y.offenceDie(0));
            Check.is("the last is the last", 5, () -> y.offenceDie(34));
        });
    }

    private static void isMadeAgain(String what, String text, int due) {
        Audit x = Halls.loaded(TEXT + text);
        int count = x.throwCount();
        Check.is(what + ", before", due, x::penanceNow);
        x.absolve();
        Check.is(what, due, () -> Math.round(x.fairShare() * count));
        Check.is(what + ", the record", count, x::throwCount);
    }

    private static void sizes() {
        Doc.says("Let k be the score of the offence, but at most the number of throws of its pair in the record.", () -> {
            isMadeAgain("the score 1, one throw", "throw a 0 1;audit;", 1);
            isMadeAgain("the score 2, two throws", "throw a 0 2;audit;", 2);
            isMadeAgain("the score 2, three throws", "throw a 0 2;audit;throw a 0 1;", 2);
            isMadeAgain("the score 2, fifty throws", "throw a 0 2;audit;throw a 0 48;", 2);
            isMadeAgain("the score 2, one throw", "throw a 2 1;audit;", 1);
            isMadeAgain("the score 6, five throws", "throw a 2 3;audit;throw a 2 2;", 5);
            isMadeAgain("the score 6, six throws", "throw a 2 3;audit;throw a 2 3;", 6);
            isMadeAgain("the score 6, seven throws", "throw a 2 3;audit;throw a 2 4;", 6);
            isMadeAgain("the score 6, three throws, and others", "throw b 2 3;audit;throw a 2 9;throw b 0 9;", 3);
            isMadeAgain("the score 600, 300 throws", "throw c 2 50;".repeat(6) + "audit;", 300);
        });
    }

    private static void removal() {
        Doc.says("The latest k throws of the pair are removed from the record", () -> {
            // The pair's first and last throws differ in their faces.
            Audit x = Halls.loaded(TEXT + "throw a 0 2;audit;");
            x.setWeight(0, 1, 1);
            x.setWeight(0, 2, 0);
            x.throwDie(0, 0, 3);
            x.throwDie(1, 1, 1);
            int first = Halls.next(x.seed());
            x.absolve();
            Check.same("the latest two of five", " 00:2 00:2 00:1 11:2 00:" + (first % 2 + 1) + "* 00:" + (Halls.next(first) % 2 + 1) + "*",
                Halls.record(x));
            Audit y = new Audit();
            y.absolve();
            Check.same("all of them", " 00:6 00:6 00:6 00:5 00:4 00:4 01:4 01:2 01:4 20:1 20:1"
                + " 11:2* 11:3* 11:2* 11:4* 11:4* 11:3* 11:1* 11:1*", Halls.record(y));
            Audit z = Halls.loaded(TEXT + "throw a 0 1;audit;absolve;audit;");
            int next = Halls.next(z.seed());
            z.absolve();
            Check.same("a fair throw too", " 00:" + (next % 2 + 1) + "*", Halls.record(z));
        });
        Doc.says("the other throws stay in their order.", () -> {
            Audit x = Halls.loaded(TEXT + "throw b 0 1;throw a 0 1;throw c 1 1;throw a 1 1;throw a 0 1;throw b 1 1;audit;");
            x.absolve();
            Check.same("both throws of the pair go", " 10:2 21:2 01:2 11:2", Halls.record(x).substring(0, 20));
            Check.is("the number", 6, x::throwCount);
            Audit y = Halls.loaded(TEXT + "throw a 0 2;audit;throw b 0 1;throw a 0 1;throw c 0 1;throw a 0 1;throw b 1 1;");
            y.absolve();
            Check.same("two of four throws of the pair stay", " 00:2 00:2 10:2 20:2 11:2", Halls.record(y).substring(0, 25));
            Check.is("the number of all", 7, y::throwCount);
            Audit z = Halls.loaded(TEXT + "throw b 0 1;throw a 0 1;throw c 0 1;throw a 0 1;audit;throw b 1 3;throw a 0 2;");
            z.absolve();
            Check.same("others before those that stay", " 10:2 00:2 20:2 00:2 11:2 11:2 11:2", Halls.record(z).substring(0, 35));
            Audit marked = Halls.loaded("hall 1 2 0;" + TEXT.substring(11) + "throw a 0 2;audit;absolve;throw b 0 1;throw a 1 1;throw c 2 3;");
            marked.setLimits(3, 0);
            marked.audit();
            marked.absolve();
            marked.throwDie(1, 2, 4);
            marked.setLimits(3, 7);
            marked.audit();
            String before = Halls.record(marked);
            int[] marks = {1, 1, 0, 0, 1, 1, 1, 0, 0, 0, 0};
            for (int i = 0; i < marks.length; i++) {
                int index = i;
                Check.is("fair throws and others by turns, " + index, marks[index], () -> marked.isFairAt(index) ? 1 : 0);
            }
            marked.absolve();
            Check.same("each with its mark", before.replace(" 12:3", ""), Halls.record(marked).substring(0, before.length() - 20));
        });
    }

    private static void fairThrows() {
        Doc.says("Then the player makes k fair throws with the die, which are added to the record.", () -> {
            Audit x = Halls.loaded(TEXT + "throw b 2 1;throw a 0 1;audit;");
            int seed = Halls.next(x.seed());
            x.absolve();
            Check.same("at the end", " 00:2 12:" + (seed % 3 + 1) + "*", Halls.record(x));
            Check.is("the seed", seed, x::seed);
            Audit y = Halls.manyThrows("die 0 0 1;");
            int first = Halls.next(y.seed());
            y.audit();
            y.absolve();
            Check.is("300 in a full record", 300, y::throwCount);
            Check.is("all are fair", 1, y::fairShare);
            Check.is("the first of them", first % 3 + 1, () -> y.faceAt(0));
            Check.is("the last of them is the seed's", y.seed() % 3 + 1, () -> y.faceAt(299));
        });
    }
}
