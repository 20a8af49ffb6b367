/** Promises 59 to 61: the output. */
final class OutputPromises {
    private static final String ALWAYS_12 = "die 0 0 0 0 0 0 0 0 0 0 0 1;";

    private OutputPromises() {
    }

    static void test() {
        writeRecords();
        writeFaces();
        outputByte();
    }

    private static void records(String what, String due, Audit x) {
        x.writeRecords();
        Check.same(what, due, Halls.output(x));
    }

    private static void writeRecords() {
        Doc.promise(59);
        Doc.says("Writes the records into the output: for each player with throws in the record, in dictionary order of the names and"
            + " separated by spaces, the name, the byte : and the total in decimal, and the byte ! if the player has an offence in the queue.", () -> {
            Audit x = new Audit();
            records("the first state", "ann:41! bob:31! cid:2", x);
            x.forgive(0);
            records("forgiven", "ann:41 bob:31! cid:2", x);
            records("by name, without those who have not thrown", "a:10 ab:100! b:2 zz:1000!",
                Halls.loaded("hall 1 50 0;die 0 1;die 0 0 0 0 0 0 0 0 0 1;player zz;player ab;player b;player c;player a;"
                    + "throw zz 1 50;throw zz 1 50;throw a 0 5;throw ab 0 50;throw b 0 1;audit;"));
            records("the last in the order has not thrown", "b:2", Halls.loaded("hall 1 9 9;die 0 1;player c;player b;player a;throw b 0 1;"));
            records("no throws", "", Halls.loaded(Halls.HALL + "player a;"));
            records("no players", "", Halls.empty());
            records("the greatest total", "abcd:3600!", Halls.loaded("hall 1 1 0;" + ALWAYS_12
                + "player abcd;" + "throw abcd 0 50;".repeat(6) + "audit;"));
            records("the least total", "a:1", Halls.loaded("hall 1 9 9;die 1 0;player a;throw a 0 1;"));
            records("six players", "a:120! b:96! c:96! d:96! e:96! f:96!", Halls.full());
        });
        Doc.says("The previous output is discarded.", () -> {
            Audit x = new Audit();
            x.writeRecords();
            x.writeRecords();
            Check.same("the same again", "ann:41! bob:31! cid:2", Halls.output(x));
            Halls.load(x, Halls.HALL);
            Check.same("load leaves the output", "ann:41! bob:31! cid:2", Halls.output(x));
            records("an empty output after one of 21 bytes", "", x);
            x.undo();
            x.writeFaces(1);
            records("after faces", "ann:41! bob:31! cid:2", x);
        });
        Doc.says("Returns the length of the output.", () -> {
            Check.is("the first state", 21, () -> new Audit().writeRecords());
            Check.is("no throws", 0, () -> Halls.loaded(Halls.HALL + "player a;").writeRecords());
            Check.is("no players", 0, () -> Halls.empty().writeRecords());
            Check.is("six players", 36, () -> Halls.full().writeRecords());
        });
    }

    private static void writeFaces() {
        Doc.promise(60);
        Doc.says("Writes the faces of all throws of a player into the output, from the oldest one on and separated by commas.", () -> {
            Audit x = new Audit();
            String[] due = {"6,6,6,5,4,4,4,2,4", "4,4,4,3,4,4,4,4", "1,1"};
            for (int player = 0; player < due.length; player++) {
                x.writeFaces(player);
                Check.same("player " + player, due[player], Halls.output(x));
            }
            Audit y = Halls.manyThrows(ALWAYS_12 + "player b;");
            y.writeFaces(1);
            Check.same("three hundred times 12", "12,".repeat(299) + "12", Halls.output(y));
            y.writeFaces(0);
            Check.same("no throws", "", Halls.output(y));
            Audit z = Halls.loaded(Halls.HALL + "die 0 0 0 0 0 0 0 0 1;die 0 0 0 0 0 0 0 0 0 1;player a;throw a 1 1;throw a 0 1;");
            z.writeFaces(0);
            Check.same("one digit behind two", "10,9", Halls.output(z));
            x.throwDie(2, 0, 1);
            x.writeFaces(2);
            Check.same("the latest throw comes last", "1,1,6", Halls.output(x));
            Audit sixDice = PairPromises.neighbours();
            sixDice.writeFaces(0);
            Check.same("with the last die", "12,12,12,1,1,12,12,12,12", Halls.output(sixDice));
            sixDice.writeFaces(1);
            Check.same("none of the player before", "", Halls.output(sixDice));
            sixDice.writeFaces(5);
            Check.same("the last player with the last die", "12", Halls.output(sixDice));
        });
        Doc.says("The previous output is discarded.", () -> {
            Audit x = new Audit();
            x.writeRecords();
            x.writeFaces(2);
            Check.same("a shorter output", "1,1", Halls.output(x));
            x.writeFaces(2);
            Check.same("the same again", "1,1", Halls.output(x));
            Halls.load(x, Halls.HALL + "player a;");
            x.writeFaces(0);
            Check.same("an empty output", "", Halls.output(x));
        });
        Doc.says("Returns the length of the output.", () -> {
            Audit x = new Audit();
            Check.is("nine faces", 17, () -> x.writeFaces(0));
            Check.is("two faces", 3, () -> x.writeFaces(2));
            Check.is("the longest output", 899, () -> Halls.manyThrows(ALWAYS_12).writeFaces(0));
            Check.is("no throws", 0, () -> Halls.loaded(Halls.HALL + "player a;").writeFaces(0));
            Check.is("one face", 1, () -> Halls.shrunk().writeFaces(0));
        });
        Doc.says("Throws `IndexOutOfBoundsException` if the player does not exist", () -> {
            Missing.player(Audit::writeFaces);
            Audit x = new Audit();
            x.writeFaces(2);
            Check.noIndex("a refused call leaves the output", x, () -> x.writeFaces(3));
        });
    }

    private static void outputByte() {
        Doc.promise(61);
        Doc.says("`position`: a position in the output, from 0", () -> {
            Audit x = new Audit();
            x.writeFaces(2);
            Check.is("the first byte", '1', () -> x.outputByte(0));
            Check.is("the second byte", ',', () -> x.outputByte(1));
            Check.is("the last byte", '1', () -> x.outputByte(2));
        });
        Doc.says("Returns the byte at this position.", () -> {
            Audit x = new Audit();
            x.writeRecords();
            String due = "ann:41! bob:31! cid:2";
            for (int i = 0; i < due.length(); i++) {
                int position = i;
                Check.is("position " + i, due.charAt(i), () -> x.outputByte(position));
            }
            Audit y = Halls.manyThrows(ALWAYS_12);
            y.writeFaces(0);
            Check.is("the last byte of the longest output", '2', () -> y.outputByte(898));
        });
        Doc.says("Throws `NoSuchElementException` if the output has no such position", () -> {
            Audit x = new Audit();
            for (int no : new int[] {0, 1, -1, Integer.MIN_VALUE, Integer.MAX_VALUE}) {
                Check.noElement("an empty output, " + no, x, () -> x.outputByte(no));
            }
            x.writeRecords();
            for (int no : new int[] {21, 22, -1, 899, 900, Integer.MIN_VALUE, Integer.MAX_VALUE}) {
                Check.noElement("21 bytes, " + no, x, () -> x.outputByte(no));
            }
            x.writeFaces(2);
            Check.noElement("a byte of the output before", x, () -> x.outputByte(3));
            Audit y = Halls.manyThrows(ALWAYS_12 + "player b;");
            y.writeFaces(1);
            for (int no : new int[] {899, 900, 901, -1}) {
                Check.noElement("899 bytes, " + no, y, () -> y.outputByte(no));
            }
            y.writeFaces(0);
            Check.noElement("no bytes after 899", y, () -> y.outputByte(0));
        });
    }
}
