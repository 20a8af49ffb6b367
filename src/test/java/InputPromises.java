/** Promises 1 to 6 and 28: a new object, the input buffer, load and its error, findPlayer. */
final class InputPromises {
    private static final String TEXT = "hall 7 8 9;";
    private static final String WRONG = "hall 9 9 9;die 1 1;player a;throw a 0 9;throw b";

    private InputPromises() {
    }

    static void test() {
        newObject();
        appendInput();
        appendedBytes();
        truncateInput();
        load();
        error();
        findPlayer();
    }

    private static void newObject() {
        Doc.promise(1);
        Doc.says("Creates the hall with the state that section 6 describes, an empty input buffer, no error, an empty output"
            + " and empty slots.", () -> {
            Audit x = new Audit();
            Check.same("the state", Halls.FIRST, Halls.state(x));
            Check.is("no error", 0, x::errorCode);
            Check.is("no error position", DiceAudit.NONE, x::errorPosition);
            Check.noElement("an empty output", x, () -> x.outputByte(0));
            Check.badState("slot 0 is empty", x, () -> x.restore(0));
            Check.badState("slot 1 is empty", x, () -> x.restore(1));
            Check.is("nothing to undo", 0, x::undoDepth);
            Check.badArgument("an empty input buffer has no byte", x, () -> x.truncateInput(1));
            Check.is("an empty input buffer", 20, () -> x.appendInput(0, 0, 0, 0, 0));
        });
        Doc.says("Creates the hall with the state that section 6 describes, an empty input buffer, no error, an empty output"
            + " and empty slots.", () -> {
            Audit used = new Audit();
            used.save(0);
            used.setSeed(1);
            used.writeFaces(0);
            Halls.failLoad(used, WRONG);
            Halls.put(used, TEXT);
            Audit x = new Audit();
            Check.same("another object's calls", Halls.allThatIsSeen(x), Halls.FIRST + ", undo 0, error 0 at -1, output ");
            Check.badState("another object's slot", x, () -> x.restore(0));
            Check.is("another object's buffer", 20, () -> x.appendInput(0, 0, 0, 0, 0));
        });
    }

    private static void appendInput() {
        Doc.promise(2);
        Doc.says("Appends 20 bytes to the input buffer: the four bytes of each argument, the most significant byte first.", () -> {
            Audit x = new Audit();
            x.appendInput(0x68616c6c, 0x20372038, 0x20393b70, 0x6c617965, 0x7220613b);
            Check.is("hall 7 8 9;player a; can be loaded", 0, x::load);
            Check.same("what it says", "7 8 9 a", Halls.state(x));
            Halls.put(x, TEXT);
            x.appendInput(0x706c6179, 0x65722062, 0x3b706c61, 0x79657220, 0x633b2020);
            Check.is("the bytes come behind those before", 0, x::load);
            Check.same("what both say", "7 8 9 b c", Halls.state(x));
        });
        Doc.says("Returns the new length of the buffer.", () -> {
            Audit x = new Audit();
            for (int length = 20; length <= 600; length += 20) {
                Check.is("length", length, () -> x.appendInput(-1, -1, -1, -1, -1));
            }
            x.truncateInput(3);
            Check.is("behind three bytes", 23, () -> x.appendInput(0, 0, 0, 0, 0));
        });
        Doc.says("Throws `IllegalStateException` if the new length would be greater than 600", () -> {
            for (int length : new int[] {581, 582, 599, 600}) {
                Audit x = new Audit();
                Halls.put(x, TEXT + " ".repeat(length - TEXT.length()));
                Check.badState("20 more than " + length, x, () -> x.appendInput(0, 0, 0, 0, 0));
                Check.badArgument("the length stays", x, () -> x.truncateInput(length + 1));
                Check.is("the length stays", length, () -> x.truncateInput(length));
                Check.is("the bytes stay", 0, x::load);
                Check.same("what they say", "7 8 9", Halls.state(x));
                Check.is("there is room again", 20, () -> x.appendInput(0, 0, 0, 0, 0));
            }
            Audit y = new Audit();
            Halls.put(y, " ".repeat(580));
            Check.is("just 600", 600, () -> y.appendInput(0, 0, 0, 0, 0));
        });
    }

    /** One byte that is not allowed, among spaces: the error position tells where it has come to stand. */
    private static void appendedBytes() {
        String[] arguments = {"`a`: bytes 1 to 4", "`b`: bytes 5 to 8", "`c`: bytes 9 to 12", "`d`: bytes 13 to 16", "`e`: bytes 17 to 20"};
        for (int i = 0; i < arguments.length; i++) {
            int argument = i;
            Doc.says(arguments[i], () -> {
                for (int place = 0; place < 4; place++) {
                    for (char sign : new char[] {'!', 0, 127, 128, 255}) {
                        StringBuilder text = new StringBuilder(" ".repeat(20));
                        int position = 4 * argument + place;
                        text.setCharAt(position, sign);
                        Audit x = new Audit();
                        Halls.failLoad(x, text.toString());
                        Check.is("byte " + (place + 1) + " with the value " + (int) sign, position, x::errorPosition);
                    }
                }
            });
        }
    }

    private static void truncateInput() {
        Doc.promise(3);
        Doc.says("Truncates the input buffer.", () -> {
            Audit x = new Audit();
            Halls.put(x, TEXT + "player b;player");
            x.truncateInput(TEXT.length() + 9);
            Check.is("what is left can be loaded", 0, x::load);
            Check.same("what is left", "7 8 9 b", Halls.state(x));
            Halls.put(x, "ann");
            x.truncateInput(1);
            x.appendInput(0x20202020, 0, 0, 0, 0);
            x.truncateInput(3);
            Check.is("what was cut does not come back", DiceAudit.NONE, x::findPlayer);
        });
        Doc.says("`length`: the new length, 0 to the current length", () -> {
            Audit x = new Audit();
            Check.is("empty to empty", 0, () -> x.truncateInput(0));
            Halls.put(x, " ".repeat(600));
            Check.is("full to full", 600, () -> x.truncateInput(600));
            Check.is("one less", 599, () -> x.truncateInput(599));
            Check.is("one byte", 1, () -> x.truncateInput(1));
            Check.is("one byte to one", 1, () -> x.truncateInput(1));
            Check.is("one byte to none", 0, () -> x.truncateInput(0));
        });
        Doc.says("Returns the new length.", () -> {
            Audit x = new Audit();
            x.appendInput(1, 2, 3, 4, 5);
            Check.is("7 of 20", 7, () -> x.truncateInput(7));
            Check.is("append goes on there", 27, () -> x.appendInput(1, 2, 3, 4, 5));
        });
        Doc.says("Throws `IllegalArgumentException` if the length is out of range", () -> {
            for (int length : new int[] {0, 1, 20, 600}) {
                Audit x = new Audit();
                Halls.put(x, " ".repeat(length));
                for (int no : new int[] {length + 1, length + 20, 601, 1000, -1, Integer.MIN_VALUE, Integer.MAX_VALUE}) {
                    Check.badArgument(no + " of " + length, x, () -> x.truncateInput(no));
                }
                Check.is("the length stays", length, () -> x.truncateInput(length));
            }
            Audit y = new Audit();
            Halls.put(y, TEXT);
            y.truncateInput(6);
            Check.badArgument("the length before the cut", y, () -> y.truncateInput(7));
            Check.isThrown("a text that ends too early", IllegalArgumentException.class, y::load);
            Check.is("the bytes stay after a refused call", 6, y::errorPosition);
        });
    }

    private static void load() {
        Doc.promise(4);
        Doc.says("Parses the input buffer and replaces the state by the result.", () -> {
            Audit x = Halls.full();
            Halls.load(x, "hall 3 4 5;");
            Check.same("nothing of the state before is left", "3 4 5", Halls.state(x));
            Halls.load(x, "hall 4 2 1;die 0 1;player zoe;throw zoe 0 3;");
            Check.same("a smaller hall than an earlier one", "12190 2 1 die 0 1 zoe 00:2 00:2 00:2", Halls.state(x));
            Audit y = Halls.loaded(Halls.STRICT + "die 1 2 3 4 5 6 7 8 9 0 1 2;player abcd;throw abcd 0 50;");
            Halls.load(y, Halls.STRICT + "die 3 3;player a;");
            Check.same("smaller dice and shorter names", "1 1 0 die 3 3 a", Halls.state(y));
            Check.yes("no weight of the die before", () -> y.isBalanced(0));
            Check.is("no heavier face of the die before", 1, () -> y.heaviestFace(0));
            Check.is("no throws before", 0, () -> y.facesSeen(0, 0));
        });
        Doc.says("The input buffer is empty afterwards, also if the text has an error.", () -> {
            Audit x = new Audit();
            Halls.load(x, TEXT);
            Check.badArgument("no byte after a load", x, () -> x.truncateInput(1));
            Check.is("an append after a load", 20, () -> x.appendInput(0, 0, 0, 0, 0));
            Check.isThrown("zeros are no text", IllegalArgumentException.class, x::load);
            Check.badArgument("no byte after an error", x, () -> x.truncateInput(1));
            Check.is("an append after an error", 20, () -> x.appendInput(0, 0, 0, 0, 0));
            x.truncateInput(0);
            Halls.failLoad(x, TEXT + "?");
            Check.isThrown("a second load", IllegalArgumentException.class, x::load);
            Check.is("a second load has an empty text", 0, x::errorPosition);
        });
        Doc.says("If the text has an error, the state does not change, and the error code and the error position are stored.", () -> {
            for (String text : new String[] {WRONG, "", "hall", TEXT + "?", TEXT + "die 1 1;player b;throw b 0 50;audit;absolve;"}) {
                Audit x = new Audit();
                x.setSeed(5);
                String before = Halls.state(x);
                Halls.failLoad(x, text);
                Check.same("the state", before, Halls.state(x));
                Check.is("the remembered calls", 1, x::undoDepth);
                Check.yes("the code is stored", () -> x.errorCode() >= 1 && x.errorCode() <= 6);
                Check.yes("the position is stored", () -> x.errorPosition() >= 0 && x.errorPosition() <= text.length());
            }
        });
        Doc.says("Returns the number of throws in the record.", () -> {
            Audit x = new Audit();
            Check.is("none", 0, () -> Halls.load(x, TEXT));
            String before = Halls.STRICT + "die 0 0 1;player a;";
            Check.is("one", 1, () -> Halls.load(x, before + "throw a 0 1;"));
            Check.is("a penance keeps the number", 3, () -> Halls.load(x, before + "throw a 0 3;audit;absolve;"));
            Check.is("300", 300, () -> Halls.load(x, before + "throw a 0 50;".repeat(6)));
        });
        Doc.says("Throws `IllegalArgumentException` if the text has an error", () -> {
            Audit x = new Audit();
            Check.isThrown("an empty text", IllegalArgumentException.class, x::load);
            Halls.put(x, WRONG);
            Check.isThrown("an error at the end", IllegalArgumentException.class, x::load);
            Halls.put(x, "?" + TEXT);
            Check.isThrown("an error in the first byte", IllegalArgumentException.class, x::load);
            Check.is("no error", 0, () -> Halls.load(x, TEXT));
        });
    }

    private static void error() {
        Doc.promise(5);
        Doc.says("Returns the error code of the latest call of load", () -> {
            Audit x = new Audit();
            Halls.failLoad(x, "hall 1 0 1;");
            Check.is("a number out of range", 2, x::errorCode);
            Halls.failLoad(x, "hall 1");
            Check.is("the latest call counts", 1, x::errorCode);
            x.setSeed(3);
            x.undo();
            Check.is("undo leaves it", 1, x::errorCode);
        });
        Doc.says("0 if it had no error or if load was not called.", () -> {
            Audit x = new Audit();
            Check.is("load was not called", 0, x::errorCode);
            Halls.failLoad(x, "hall 1");
            Halls.load(x, TEXT);
            Check.is("no error after an error", 0, x::errorCode);
            x.undo();
            Check.is("undo brings no error back", 0, x::errorCode);
        });
        Doc.promise(6);
        Doc.says("Returns the error position of the latest call of load", () -> {
            Audit x = new Audit();
            Halls.failLoad(x, "hall 1 0 1;");
            Check.is("a number out of range", 7, x::errorPosition);
            Halls.failLoad(x, "hall 1");
            Check.is("the latest call counts", 6, x::errorPosition);
            Halls.failLoad(x, "");
            Check.is("the first position of all", 0, x::errorPosition);
            x.setSeed(3);
            x.undo();
            Check.is("undo leaves it", 0, x::errorPosition);
        });
        Doc.says("NONE if it had no error or if load was not called.", () -> {
            Audit x = new Audit();
            Check.is("load was not called", -1, x::errorPosition);
            Halls.failLoad(x, "hall 1");
            Halls.load(x, TEXT);
            Check.is("no error after an error", -1, x::errorPosition);
            x.undo();
            Check.is("undo brings no position back", -1, x::errorPosition);
        });
    }

    private static void findPlayer() {
        String[] texts = {"a", "ab", "abc", "abcd", "abcde", "b", " a", "a ", "A", "bcd", "d", "\0", "a\0", "\u00e1"};
        int[] found = {0, 1, -1, 2, -1, -1, -1, -1, -1, -1, -1, -1, -1, -1};
        Doc.promise(28);
        Doc.says("Finds the player whose name is the whole input buffer.", () -> {
            Audit x = Halls.loaded(Halls.HALL + "player a;player ab;player abcd;");
            for (int i = 0; i < texts.length; i++) {
                Halls.put(x, texts[i]);
                Check.is(texts[i], found[i], x::findPlayer);
                x.truncateInput(0);
            }
            Halls.put(x, "abcd" + " ".repeat(596));
            Check.is("a full buffer", -1, x::findPlayer);
            x.truncateInput(4);
            Check.is("what is left of it", 2, x::findPlayer);
        });
        Doc.says("The input buffer does not change.", () -> {
            Audit x = Halls.loaded(Halls.HALL + "player a;player ab;player abcd;");
            for (int i = 0; i < texts.length; i++) {
                int length = texts[i].length();
                Halls.put(x, texts[i]);
                x.findPlayer();
                Check.is("the same answer", found[i], x::findPlayer);
                Check.badArgument("no more bytes", x, () -> x.truncateInput(length + 1));
                Check.is("no less bytes", length, () -> x.truncateInput(length));
                x.truncateInput(0);
            }
            Halls.put(x, "hall 2 3 4;");
            x.findPlayer();
            x.load();
            Check.same("a text is still there", "2 3 4", Halls.state(x));
        });
        Doc.says("Returns the player", () -> {
            Audit x = Halls.loaded(Halls.HALL + Halls.SIX_PLAYERS);
            for (int i = 0; i < 6; i++) {
                int player = i;
                Halls.put(x, String.valueOf((char) ('a' + player)));
                Check.is("player " + player, player, x::findPlayer);
                x.truncateInput(0);
            }
        });
        Doc.says("NONE if there is none.", () -> {
            Audit x = new Audit();
            Check.is("an empty buffer", -1, x::findPlayer);
            Halls.put(x, "an");
            Check.is("a name cut short", -1, x::findPlayer);
            Audit y = Halls.shrunk();
            Check.is("an empty buffer again", -1, y::findPlayer);
            Halls.put(y, "b");
            Check.is("a player of an earlier text", -1, y::findPlayer);
            Audit z = Halls.empty();
            Check.is("no players and an empty buffer", -1, z::findPlayer);
        });
    }
}
