/** Promises 62 to 65: slots and undo. */
public final class UndoTest {
    public static void main(String[] args) {
        slots();
        wrongSlots();
        undo();
        ring();
        every();
        Check.finish("UndoTest");
    }

    private static void slots() {
        DiceAudit x = new DiceAudit();
        Check.is("promise 62: the number of throws", 19, () -> x.save(0));
        Check.is("promise 62: not remembered", 0, x::undoDepth);
        x.throwDie(0, 0, 5);
        String more = Check.state(x);
        Check.is("promise 62: slot 1", 24, () -> x.save(1));
        Check.load(x, "hall 9 9 9;");
        Check.is("promise 63: the number of throws", 19, () -> x.restore(0));
        Check.same("promise 63: the state of slot 0", InputTest.FIRST, Check.state(x));
        Check.is("promise 63: slot 1", 24, () -> x.restore(1));
        Check.same("promise 63: the state of slot 1", more, Check.state(x));
        x.throwDie(0, 0, 1);
        x.audit();
        x.setWeight(0, 1, 9);
        Check.is("promise 63: the slot keeps its content", 24, () -> x.restore(1));
        Check.same("promise 63: as it was", more, Check.state(x));
        Check.is("promise 63: remembered", 8, x::undoDepth);
        x.setSeed(5);
        Check.is("promise 62: the slot is written anew", 24, () -> x.save(0));
        x.setSeed(6);
        x.restore(0);
        Check.is("promise 62: the new content", 5, x::seed);
        x.undo();
        Check.is("promise 64: undo of restore", 6, x::seed);
        x.restore(0);
        Check.is("promise 62: undo leaves the slots", 5, x::seed);
    }

    private static void wrongSlots() {
        DiceAudit x = new DiceAudit();
        for (int no : new int[] {-1, 2, Integer.MIN_VALUE, Integer.MAX_VALUE}) {
            Check.noIndex("promise 62: slot " + no, () -> x.save(no));
            Check.noIndex("promise 63: slot " + no, () -> x.restore(no));
        }
        Check.badState("promise 63: slot 0 is empty", () -> x.restore(0));
        x.save(1);
        Check.badState("promise 63: slot 0 is still empty", () -> x.restore(0));
        Check.is("promise 63: a refused call is not remembered", 0, x::undoDepth);
        Check.is("promise 63: slot 1 is full", 19, () -> x.restore(1));
    }

    private static void undo() {
        DiceAudit x = new DiceAudit();
        Check.badState("promise 64: nothing is remembered", x::undo);
        Check.is("promise 65: none", 0, x::undoDepth);
        x.setSeed(1);
        x.setSeed(2);
        Check.is("promise 65: two", 2, x::undoDepth);
        Check.is("promise 64: one is left", 1, x::undo);
        Check.is("promise 64: the seed before the second call", 1, x::seed);
        Check.is("promise 65: one", 1, x::undoDepth);
        x.setSeed(3);
        Check.is("promise 65: two again", 2, x::undoDepth);
        Check.is("promise 64: one is left again", 1, x::undo);
        Check.is("promise 64: the call that was undone is gone", 1, x::seed);
        Check.is("promise 64: none is left", 0, x::undo);
        Check.same("promise 64: the first state", InputTest.FIRST, Check.state(x));
        Check.badState("promise 64: nothing more", x::undo);
    }

    private static void ring() {
        DiceAudit x = new DiceAudit();
        for (int i = 1; i <= 20; i++) {
            int call = i;
            x.setSeed(call);
            Check.is("promise 65: after " + call, Math.min(call, 8), x::undoDepth);
        }
        for (int i = 1; i <= 8; i++) {
            int left = 8 - i;
            Check.is("promise 64: left " + left, left, x::undo);
            Check.is("promise 64: the seed, left " + left, 12 + left, x::seed);
        }
        Check.badState("promise 64: only eight calls", x::undo);
        Check.is("promise 64: the ninth call stays", 12, x::seed);
    }

    /** Each undoable method, and none other, adds one remembered call, and undo brings the state back. */
    private static void every() {
        DiceAudit x = new DiceAudit();
        x.save(0);
        Check.Call[] calls = {
            () -> Check.load(x, Check.HALL), () -> x.throwDie(0, 0, 1), x::audit, x::absolve, () -> x.forgive(2),
            () -> x.setWeight(0, 1, 2), () -> x.setSeed(7), () -> x.setLimits(2, 2), () -> x.restore(0)};
        for (int i = 0; i < calls.length; i++) {
            int call = i;
            Check.is("promise 65: call " + i, 1, () -> 0 * calls[call].answer() + x.undoDepth());
            Check.is("promise 64: call " + i, 0, x::undo);
            Check.same("promise 64: state after call " + i, InputTest.FIRST, Check.state(x));
        }
        Check.put(x, "ann");
        x.findPlayer();
        x.save(1);
        x.writeRecords();
        x.writeFaces(0);
        x.suspiciousPairs();
        x.truncateInput(0);
        Check.is("promise 65: no other method is remembered", 0, x::undoDepth);
        Check.is("promise 64: load is remembered beside the others", 2, () -> {
            x.setSeed(3);
            Check.load(x, Check.HALL);
            return x.undoDepth();
        });
        x.undo();
        Check.is("promise 64: before load", 3, x::seed);
        x.undo();
        Check.same("promise 64: before all", InputTest.FIRST, Check.state(x));
    }
}
