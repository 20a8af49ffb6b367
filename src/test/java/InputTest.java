/** Promises 1 to 6 and 28: a new object, the input buffer, load and its error, findPlayer. */
public final class InputTest {
    static final String FIRST = "23634 6 3 die 1 1 1 1 1 1 die 0 1 1 4 ann bob cid"
        + " 00:6 00:6 00:6 00:5 00:4 00:4 11:4 11:4 11:4 11:3 11:4 11:4 11:4 11:4 01:4 01:2 01:4 20:1 20:1"
        + " offence 11=17 offence 00=8";

    public static void main(String[] args) {
        newObject();
        append();
        truncate();
        load();
        error();
        find();
        Check.finish("InputTest");
    }

    private static void newObject() {
        DiceAudit x = new DiceAudit();
        Check.same("promise 1: the first state", FIRST, Check.state(x));
        Check.is("promise 1: no error", 0, x::errorCode);
        Check.is("promise 1: no error position", DiceAudit.NONE, x::errorPosition);
        Check.noElement("promise 1: empty output", () -> x.outputByte(0));
        Check.badState("promise 1: empty slot 0", () -> x.restore(0));
        Check.badState("promise 1: empty slot 1", () -> x.restore(1));
        Check.is("promise 1: nothing to undo", 0, x::undoDepth);
        Check.is("promise 1: an empty input buffer", 20, () -> x.appendInput(0, 0, 0, 0, 0));
        Check.is("NONE", -1, () -> DiceAudit.NONE);
    }

    private static void append() {
        DiceAudit x = new DiceAudit();
        for (int i = 1; i <= 30; i++) {
            int length = 20 * i;
            Check.is("promise 2: the new length", length, () -> x.appendInput(-1, -1, -1, -1, -1));
        }
        Check.badState("promise 2: more than 600", () -> x.appendInput(0, 0, 0, 0, 0));
        Check.is("promise 2: a refused append changes nothing", 600, () -> x.truncateInput(600));
        Check.is("promise 2: cut to 581", 581, () -> x.truncateInput(581));
        Check.badState("promise 2: 601 bytes", () -> x.appendInput(0, 0, 0, 0, 0));
        Check.is("promise 2: cut to 580", 580, () -> x.truncateInput(580));
        Check.is("promise 2: just 600", 600, () -> x.appendInput(0, 0, 0, 0, 0));
        DiceAudit y = new DiceAudit();
        // The bytes of "hall 7 8 9;player a;", four to an argument.
        Check.is("promise 2: the order of the bytes", 20,
            () -> y.appendInput(0x68616c6c, 0x20372038, 0x20393b70, 0x6c617965, 0x7220613b));
        Check.is("promise 2: the text can be loaded", 0, y::load);
        Check.same("promise 2: what it says", "7 8 9 a", Check.state(y));
    }

    private static void truncate() {
        DiceAudit x = new DiceAudit();
        Check.badArgument("promise 3: longer than empty", () -> x.truncateInput(1));
        Check.badArgument("promise 3: less than 0", () -> x.truncateInput(-1));
        Check.is("promise 3: empty to empty", 0, () -> x.truncateInput(0));
        x.appendInput(1, 2, 3, 4, 5);
        Check.badArgument("promise 3: longer than it is", () -> x.truncateInput(21));
        Check.badArgument("promise 3: the least int", () -> x.truncateInput(Integer.MIN_VALUE));
        Check.is("promise 3: to the present length", 20, () -> x.truncateInput(20));
        Check.is("promise 3: shorter", 7, () -> x.truncateInput(7));
        Check.badArgument("promise 3: what was cut stays cut", () -> x.truncateInput(8));
        Check.is("promise 3: append goes on there", 27, () -> x.appendInput(1, 2, 3, 4, 5));
    }

    private static void load() {
        DiceAudit x = new DiceAudit();
        Check.is("promise 4: the number of throws", 3, () -> Check.load(x, "hall 4 2 1;die 0 1;player zoe;throw zoe 0 3;"));
        Check.same("promise 4: the state is replaced", "12190 2 1 die 0 1 zoe 00:2 00:2 00:2", Check.state(x));
        Check.badArgument("promise 4: the buffer is empty after it", () -> x.truncateInput(1));
        String before = Check.state(x);
        Check.badArgument("promise 4: an error", () -> Check.load(x, "hall 9 9 9;die 1 1;player a;throw a 0 9;throw b"));
        Check.same("promise 4: an error changes no state", before, Check.state(x));
        Check.badArgument("promise 4: the buffer is empty after an error", () -> x.truncateInput(1));
        Check.badArgument("promise 4: an empty text", x::load);
        Check.is("promise 4: an error is not remembered", 1, x::undoDepth);
        Check.is("promise 4: load can be undone", 0, x::undo);
        Check.same("promise 4: the state before it", FIRST, Check.state(x));
    }

    private static void error() {
        DiceAudit x = new DiceAudit();
        Check.badArgument("promise 5: an error", () -> Check.load(x, "hall 1 0 1;"));
        Check.is("promise 5: its code", 2, x::errorCode);
        Check.is("promise 6: its position", 7, x::errorPosition);
        Check.badArgument("promise 5: another error", () -> Check.load(x, "hall 1"));
        Check.is("promise 5: another code", 1, x::errorCode);
        Check.is("promise 6: another position", 6, x::errorPosition);
        x.setSeed(3);
        x.undo();
        Check.is("promise 5: undo leaves the code", 1, x::errorCode);
        Check.is("promise 6: undo leaves the position", 6, x::errorPosition);
        Check.load(x, Check.HALL);
        Check.is("promise 5: no error", 0, x::errorCode);
        Check.is("promise 6: no error", DiceAudit.NONE, x::errorPosition);
        x.undo();
        Check.is("promise 5: undo brings no error back", 0, x::errorCode);
        Check.is("promise 6: undo brings no position back", DiceAudit.NONE, x::errorPosition);
    }

    private static void find() {
        DiceAudit x = Check.loaded("hall 1 1 1;player a;player ab;player abcd;");
        Check.is("promise 28: an empty buffer", DiceAudit.NONE, x::findPlayer);
        String[] texts = {"a", "ab", "abc", "abcd", "abcde", "b", " a", "a ", "A"};
        int[] found = {0, 1, -1, 2, -1, -1, -1, -1, -1};
        for (int i = 0; i < texts.length; i++) {
            Check.put(x, texts[i]);
            Check.is("promise 28: " + texts[i], found[i], x::findPlayer);
            int length = texts[i].length();
            Check.is("promise 28: the buffer stays", found[i], x::findPlayer);
            Check.badArgument("promise 28: it has no more bytes", () -> x.truncateInput(length + 1));
            Check.is("promise 28: it has these bytes", length, () -> x.truncateInput(length));
            x.truncateInput(0);
        }
    }
}
