/** Promises 38 to 42, 48 and 53 to 55: the queue, audits, penances and forgiveness. */
final class OffencePromises {
    /** Dice that always show their last face, of two or of three: n throws have the score n or 2n. */
    static final String TEXT = "hall 1 1 0;die 0 1;die 0 1;die 0 0 1;player a;player b;player c;";
    private static final String RANK = "`rank`: a rank, 0 for the worst offence";
    private static final String NO_OFFENCE = "Throws `IndexOutOfBoundsException` if the offence does not exist";
    private static final String NO_PLAYER = "Throws `IndexOutOfBoundsException` if the player does not exist";

    private OffencePromises() {
    }

    static void test() {
        offenceCount();
        offences();
        offencesOf();
        penanceNow();
        audit();
        absolve();
        forgive();
    }

    private static void offenceCount() {
        Doc.promise(38);
        Doc.says("Returns the number of offences in the queue.", () -> {
            Check.is("of the first state", 2, () -> new Audit().offenceCount());
            Check.is("none", 0, () -> Halls.empty().offenceCount());
            Check.is("none without an audit", 0, () -> Halls.loaded(TEXT + "throw a 0 9;").offenceCount());
            Check.is("all 36 pairs", 36, () -> Halls.full().offenceCount());
            Check.is("one after 36", 1, () -> Halls.shrunk().offenceCount());
        });
    }

    /** The worst offence, the next one and the last one of this hall are 2 2, 0 1 and 1 0. */
    private static Audit three() {
        return Halls.loaded(TEXT + "throw b 0 2;throw a 1 3;throw c 2 2;audit;");
    }

    private static void offences() {
        Doc.promise(39);
        Doc.says(RANK, () -> {
            Audit x = three();
            Check.is("the worst", 2, () -> x.offencePlayer(0));
            Check.is("the last", 1, () -> x.offencePlayer(2));
            Check.is("the last of 36", 5, () -> Halls.full().offencePlayer(35));
        });
        Doc.says("Returns the player of the offence.", () -> Check.is("the second", 0, () -> three().offencePlayer(1)));
        Doc.says(NO_OFFENCE, () -> Missing.offence(Audit::offencePlayer));
        Doc.promise(40);
        Doc.says(RANK, () -> {
            Audit x = three();
            Check.is("the worst", 2, () -> x.offenceDie(0));
            Check.is("the last", 0, () -> x.offenceDie(2));
            Check.is("the last of 36", 5, () -> Halls.full().offenceDie(35));
        });
        Doc.says("Returns the die of the offence.", () -> Check.is("the second", 1, () -> three().offenceDie(1)));
        Doc.says(NO_OFFENCE, () -> Missing.offence(Audit::offenceDie));
        Doc.promise(41);
        Doc.says(RANK, () -> {
            Audit x = three();
            Check.is("the worst", 4, () -> x.offenceScore(0));
            Check.is("the last", 2, () -> x.offenceScore(2));
            Check.is("the last of 36", 8, () -> Halls.full().offenceScore(35));
        });
        Doc.says("Returns the score of the offence.", () -> {
            Check.is("the second", 3, () -> three().offenceScore(1));
            Audit x = three();
            x.throwDie(0, 1, 5);
            Check.is("the score of the audit, not the present one", 3, () -> x.offenceScore(1));
        });
        Doc.says(NO_OFFENCE, () -> Missing.offence(Audit::offenceScore));
    }

    private static void offencesOf() {
        Doc.promise(42);
        Doc.says("Returns the number of offences of the player in the queue.", () -> {
            Audit x = Halls.loaded(TEXT + "throw b 1 4;throw b 0 4;throw a 1 4;throw b 2 2;audit;");
            Check.is("one", 1, () -> x.offencesOf(0));
            Check.is("three", 3, () -> x.offencesOf(1));
            Check.is("none", 0, () -> x.offencesOf(2));
            Check.is("six", 6, () -> Halls.full().offencesOf(5));
            Audit sixDice = PairPromises.neighbours();
            sixDice.audit();
            Check.is("one with the last die", 3, () -> sixDice.offencesOf(0));
            Check.is("none of the player before", 0, () -> sixDice.offencesOf(1));
            Check.is("the last player with the last die", 1, () -> sixDice.offencesOf(5));
            x.absolve();
            Check.is("one is absolved", 3, () -> x.offencesOf(0) + x.offencesOf(1));
        });
        Doc.says(NO_PLAYER, () -> Missing.player(Audit::offencesOf));
    }

    private static void penanceNow() {
        Doc.promise(48);
        Doc.says("Returns the number of throws that absolve would remove now", () -> {
            Audit x = new Audit();
            Check.is("8 throws and the score 17", 8, x::penanceNow);
            x.absolve();
            Check.is("6 throws and the score 8", 6, x::penanceNow);
            Audit y = Halls.loaded(TEXT + "throw a 0 2;audit;");
            Check.is("2 throws and the score 2", 2, y::penanceNow);
            y.throwDie(0, 0, 1);
            Check.is("3 throws and the score 2", 2, y::penanceNow);
            Check.is("300 throws and the score 3300", 300, () -> {
                Audit many = Halls.manyThrows("die 0 0 0 0 0 0 0 0 0 0 0 1;");
                many.audit();
                return many.penanceNow();
            });
        });
        Doc.says("0 if the queue is empty.", () -> {
            Audit x = Halls.loaded(TEXT + "throw a 0 2;audit;");
            x.absolve();
            Check.is("the last offence is absolved", 0, x::penanceNow);
            Check.is("no pairs", 0, () -> Halls.empty().penanceNow());
            Audit y = new Audit();
            y.forgive(0);
            y.forgive(1);
            Check.is("all are forgiven", 0, y::penanceNow);
        });
    }

    private static void audit() {
        Doc.promise(53);
        Doc.says("Holds an audit.", () -> {
            Audit x = Halls.loaded(TEXT + "throw a 0 2;throw c 2 3;");
            x.audit();
            Check.same("the queue", " offence 22=6 offence 00=2", Halls.queue(x));
            x.undo();
            Check.same("undone", "", Halls.queue(x));
        });
        Doc.says("Returns the number of offences that were added.", () -> {
            Audit x = Halls.loaded(TEXT + "throw a 0 2;throw c 2 3;");
            Check.is("two", 2, x::audit);
            Check.is("none", 0, x::audit);
            x.throwDie(1, 1, 1);
            Check.is("one beside two others", 1, x::audit);
            Check.is("no pairs", 0, () -> Halls.empty().audit());
            Audit y = Halls.full();
            Check.is("a full queue", 0, y::audit);
            Check.is("six are forgiven", 6, () -> y.forgive(3));
            Check.is("six come back", 6, y::audit);
            Audit z = Halls.full();
            for (int player = 0; player < 6; player++) {
                z.forgive(player);
            }
            Check.is("all 36 pairs", 36, z::audit);
        });
    }

    private static void absolve() {
        Doc.promise(54);
        Doc.says("Absolves the worst offence.", () -> {
            Audit x = new Audit();
            x.absolve();
            Check.same("the state", "9384 6 3 die 1 1 1 1 1 1 die 0 1 1 4 ann bob cid"
                + " 00:6 00:6 00:6 00:5 00:4 00:4 01:4 01:2 01:4 20:1 20:1"
                + " 11:2* 11:3* 11:2* 11:4* 11:4* 11:3* 11:1* 11:1* offence 00=8", Halls.state(x));
        });
        Doc.says("Returns the sum of the faces of the fair throws.", () -> {
            Audit x = new Audit();
            // The seeds after 23634 give these fair faces of 4: 2 3 2 4 4 3 1 1.
            Check.is("8 throws", 20, x::absolve);
            Audit y = Halls.loaded(TEXT + "throw a 0 1;audit;throw b 0 3;");
            int face = Halls.next(y.seed()) % 2 + 1;
            Check.is("one throw", face, y::absolve);
        });
        Doc.says("Throws `IllegalStateException` if the queue is empty", () -> {
            Audit x = Halls.loaded(TEXT + "throw a 0 2;");
            Check.badState("no audit", x, x::absolve);
            x.audit();
            x.absolve();
            Check.badState("the last one is absolved", x, x::absolve);
            Audit y = Halls.empty();
            Check.badState("no pairs", y, y::absolve);
            Audit z = new Audit();
            z.forgive(0);
            z.forgive(1);
            Check.badState("all are forgiven", z, z::absolve);
        });
    }

    private static void forgive() {
        Doc.promise(55);
        Doc.says("Removes all offences of a player from the queue.", () -> {
            Audit x = Halls.loaded(TEXT + "throw b 1 4;throw b 0 3;throw a 1 4;throw c 2 3;throw b 2 1;audit;");
            x.forgive(1);
            Check.same("the others stay", " offence 22=6 offence 01=4", Halls.queue(x));
            x.forgive(2);
            Check.same("the first is gone", " offence 01=4", Halls.queue(x));
            x.forgive(0);
            Check.same("the last is gone", "", Halls.queue(x));
            x.undo();
            Check.same("undone", " offence 01=4", Halls.queue(x));
            Audit sixDice = PairPromises.neighbours();
            sixDice.audit();
            sixDice.forgive(1);
            Check.same("none of the player before", " offence 05=44 offence 00=33 offence 55=11 offence 01=2", Halls.queue(sixDice));
            sixDice.forgive(0);
            Check.same("the offence with the last die is gone", " offence 55=11", Halls.queue(sixDice));
            Audit y = Halls.full();
            String record = Halls.record(y);
            y.forgive(5);
            Check.is("30 of 36 are left", 30, y::offenceCount);
            Check.same("the record stays", record, Halls.record(y));
        });
        Doc.says("Returns the number of these offences.", () -> {
            Audit x = Halls.loaded(TEXT + "throw b 1 4;throw b 0 3;throw a 1 4;throw b 2 1;audit;");
            Check.is("three", 3, () -> x.forgive(1));
            Check.is("none any more", 0, () -> x.forgive(1));
            Check.is("one", 1, () -> x.forgive(0));
            Check.is("none", 0, () -> x.forgive(2));
            Check.is("six", 6, () -> Halls.full().forgive(0));
        });
        Doc.says(NO_PLAYER, () -> Missing.player(Audit::forgive));
    }
}
