/** Promises 62 to 65: slots and undo. */
final class UndoPromises {
    private static final String NO_SLOT = "Throws `IndexOutOfBoundsException` if the slot does not exist";
    private static final int[] NO_SLOTS = {-1, 2, 3, Integer.MIN_VALUE, Integer.MAX_VALUE};

    private UndoPromises() {
    }

    static void test() {
        save();
        restore();
        undo();
        undoDepth();
    }

    private static void save() {
        Doc.promise(62);
        Doc.says("Stores a copy of the state in a slot.", () -> {
            Audit x = Halls.full();
            String full = Halls.state(x);
            x.save(1);
            x.setWeight(0, 1, 9);
            x.setSeed(4);
            x.setLimits(9, 9);
            x.absolve();
            x.forgive(3);
            Halls.load(x, "hall 5 5 5;");
            x.restore(1);
            Check.same("all of the fullest state", full, Halls.state(x));
            Audit y = Halls.empty();
            y.save(0);
            Halls.load(y, Halls.HALL + "die 1 1;player a;throw a 0 3;");
            y.restore(0);
            Check.same("all of an empty state", "1 1 0", Halls.state(y));
        });
        Doc.says("The previous content of the slot is discarded.", () -> {
            Audit x = new Audit();
            x.save(0);
            x.save(1);
            x.setSeed(5);
            x.save(0);
            x.setSeed(6);
            x.restore(0);
            Check.is("the new content", 5, x::seed);
            x.restore(1);
            Check.is("the other slot stays", 23634, x::seed);
            Halls.load(x, "hall 5 5 5;");
            x.save(1);
            x.undo();
            x.restore(1);
            Check.same("a smaller state over a greater one", "5 5 5", Halls.state(x));
        });
        Doc.says("`slot`: 0 or 1", () -> {
            Audit x = new Audit();
            x.setSeed(10);
            x.save(0);
            x.setSeed(11);
            x.save(1);
            x.restore(0);
            Check.is("slot 0", 10, x::seed);
            x.restore(1);
            Check.is("slot 1", 11, x::seed);
        });
        Doc.says("Returns the number of throws in the record.", () -> {
            Check.is("19", 19, () -> new Audit().save(0));
            Check.is("none", 0, () -> Halls.empty().save(1));
            Check.is("300", 300, () -> Halls.full().save(0));
        });
        Doc.says(NO_SLOT, () -> {
            Audit x = new Audit();
            for (int no : NO_SLOTS) {
                Check.noIndex("slot " + no, x, () -> x.save(no));
            }
            Check.badState("nothing was stored in slot 0", x, () -> x.restore(0));
            Check.badState("nothing was stored in slot 1", x, () -> x.restore(1));
        });
    }

    private static void restore() {
        Doc.promise(63);
        Doc.says("Replaces the state by the copy in a slot.", () -> {
            Audit x = new Audit();
            x.save(0);
            Halls.load(x, "hall 9 9 9;");
            x.restore(0);
            Check.same("a greater state", Halls.FIRST, Halls.state(x));
            x.undo();
            Check.same("undone", "9 9 9", Halls.state(x));
            x.save(1);
            x.undo();
            x.restore(1);
            Check.same("a smaller state", "9 9 9", Halls.state(x));
        });
        Doc.says("The slot keeps its content.", () -> {
            Audit x = new Audit();
            x.save(1);
            for (int i = 0; i < 3; i++) {
                x.throwDie(0, 0, 1);
                x.absolve();
                x.audit();
                x.setWeight(0, 1, 9);
                x.setLimits(1, 0);
                Check.is("restored", 19, () -> x.restore(1));
                Check.same("as it was", Halls.FIRST, Halls.state(x));
            }
            x.undo();
            x.undo();
            x.restore(1);
            Check.same("undo leaves the slot", Halls.FIRST, Halls.state(x));
        });
        Doc.says("`slot`: 0 or 1", () -> {
            Audit x = new Audit();
            x.save(1);
            x.setSeed(7);
            x.save(0);
            x.restore(1);
            Check.is("slot 1", 23634, x::seed);
            x.restore(0);
            Check.is("slot 0", 7, x::seed);
        });
        Doc.says("Returns the number of throws in the record afterwards.", () -> {
            Audit x = Halls.empty();
            x.save(0);
            Halls.load(x, Halls.STRICT + "die 0 1;player a;" + "throw a 0 50;".repeat(6));
            x.save(1);
            Check.is("none after 300", 0, () -> x.restore(0));
            Check.is("300 after none", 300, () -> x.restore(1));
        });
        Doc.says(NO_SLOT, () -> {
            Audit x = new Audit();
            for (int no : NO_SLOTS) {
                Check.noIndex("empty slots, slot " + no, x, () -> x.restore(no));
            }
            x.save(0);
            x.save(1);
            for (int no : NO_SLOTS) {
                Check.noIndex("full slots, slot " + no, x, () -> x.restore(no));
            }
        });
        Doc.says("Throws `IllegalStateException` if the slot is empty", () -> {
            Audit x = new Audit();
            Check.badState("slot 0", x, () -> x.restore(0));
            Check.badState("slot 1", x, () -> x.restore(1));
            x.save(1);
            Check.badState("slot 0 beside a full one", x, () -> x.restore(0));
            Check.is("slot 1 is full", 19, () -> x.restore(1));
            Audit y = new Audit();
            y.save(0);
            Check.badState("slot 1 beside a full one", y, () -> y.restore(1));
            Audit z = Halls.empty();
            z.save(0);
            Check.is("a slot with a state of no throws is not empty", 0, () -> z.restore(0));
        });
    }

    private static void undo() {
        Doc.promise(64);
        Doc.says("Undoes the latest remembered undoable call and removes it from the remembered calls.", () -> {
            Audit x = new Audit();
            x.setSeed(1);
            x.setSeed(2);
            x.undo();
            Check.is("the seed before the second call", 1, x::seed);
            x.setSeed(3);
            x.undo();
            Check.is("the call that was undone is gone", 1, x::seed);
            x.undo();
            Check.same("the first state", Halls.FIRST, Halls.state(x));
        });
        Doc.says("Returns the number of remembered calls that are left.", () -> {
            Audit x = new Audit();
            for (int i = 1; i <= 20; i++) {
                x.setSeed(i);
            }
            for (int i = 7; i >= 0; i--) {
                int left = i;
                Check.is("left", left, x::undo);
            }
        });
        Doc.says("Throws `IllegalStateException` if no call is remembered", () -> {
            Audit x = new Audit();
            Check.badState("a new object", x, x::undo);
            x.setSeed(1);
            x.undo();
            Check.badState("one call, undone", x, x::undo);
            for (int i = 1; i <= 9; i++) {
                x.setSeed(i);
            }
            for (int i = 1; i <= 8; i++) {
                x.undo();
            }
            Check.badState("eight of nine calls, undone", x, x::undo);
            Check.is("the ninth call stays", 1, x::seed);
            Audit y = new Audit();
            y.save(0);
            y.writeRecords();
            Halls.failLoad(y, "");
            Check.badState("no undoable calls", y, y::undo);
        });
    }

    private static void undoDepth() {
        Doc.promise(65);
        Doc.says("Returns the number of remembered undoable calls, at most 8.", () -> {
            Audit x = new Audit();
            Check.is("none", 0, x::undoDepth);
            for (int i = 1; i <= 20; i++) {
                int call = i;
                x.setSeed(call);
                Check.is("after " + call, Math.min(call, 8), x::undoDepth);
            }
            x.undo();
            Check.is("after undo", 7, x::undoDepth);
            x.setSeed(1);
            x.setSeed(1);
            Check.is("at most 8 again", 8, x::undoDepth);
        });
    }
}
