import java.util.LinkedHashMap;
import java.util.Map;
import java.util.function.Consumer;

/** Section 6 of the terms: the state, undo, the slots, and what all methods have in common. */
final class StateTerms {
    private StateTerms() {
    }

    static void test() {
        Doc.terms(6);
        parts();
        undoable();
        remembered();
        notPartOfTheState();
        refusedCalls();
        severalExceptions();
        questions();
        firstState();
    }

    /** One call of each undoable method, which changes what its name says. */
    private static Map<String, Consumer<Audit>> changes() {
        Map<String, Consumer<Audit>> changes = new LinkedHashMap<>();
        changes.put("load", x -> Halls.load(x, "hall 3 4 5;die 0 1;player zoe;throw zoe 0 2;"));
        changes.put("load of the least text", x -> Halls.load(x, "hall 0 1 0;"));
        changes.put("throwDie", x -> x.throwDie(2, 1, 50));
        changes.put("audit", Audit::audit);
        changes.put("absolve", Audit::absolve);
        changes.put("forgive", x -> x.forgive(0));
        changes.put("setWeight", x -> x.setWeight(1, 4, 9));
        changes.put("setSeed", x -> x.setSeed(65536));
        changes.put("setLimits", x -> x.setLimits(1, 0));
        changes.put("restore", x -> x.restore(1));
        return changes;
    }

    /** The first state with an audit to be held, another state in slot 1, and none in slot 0. */
    private static Audit prepared() {
        Audit x = new Audit();
        Halls.load(x, "hall 9 9 9;player q;");
        x.save(1);
        x.undo();
        x.setLimits(2, 2);
        x.undo();
        x.throwDie(2, 0, 9);
        return x;
    }

    private static void parts() {
        Doc.says("The state consists of the seed, the minimum, the threshold, the dice, the players, the record and the queue.", () -> {
            changes().forEach((name, change) -> {
                Audit x = prepared();
                String before = Halls.state(x);
                x.save(0);
                change.accept(x);
                String after = Halls.state(x);
                x.undo();
                Check.same("undo of " + name, before, Halls.state(x));
                change.accept(x);
                Check.same(name + " again", after, Halls.state(x));
                x.restore(0);
                Check.same("restore after " + name, before, Halls.state(x));
            });
        });
        Doc.says("Undo restores the state before the latest remembered call.", () -> {
            Audit x = prepared();
            String before = Halls.state(x);
            Check.is("one call is remembered before", 1, x::undoDepth);
            x.setSeed(1);
            x.absolve();
            x.setWeight(0, 6, 0);
            x.throwDie(0, 0, 30);
            x.forgive(0);
            x.setLimits(1, 1);
            x.audit();
            Halls.load(x, "hall 1 1 1;");
            Check.is("the call before them is forgotten", 8, x::undoDepth);
            for (int i = 0; i < 8; i++) {
                x.undo();
            }
            Check.same("all of eight calls", before, Halls.state(x));
            Audit y = Halls.full();
            String full = Halls.state(y);
            Halls.load(y, "hall 1 1 1;");
            y.undo();
            Check.same("the fullest state", full, Halls.state(y));
        });
    }

    private static void undoable() {
        Doc.says("Undoable methods are load if the text has no error, and throwDie, audit, absolve, forgive, setWeight, setSeed, setLimits and"
            + " restore if they throw no exception.", () -> {
            changes().forEach((name, change) -> {
                Audit x = prepared();
                change.accept(x);
                Check.is(name, 2, x::undoDepth);
            });
            Audit same = Halls.full();
            same.audit();
            same.setSeed(same.seed());
            same.setLimits(1, 0);
            same.setWeight(0, 1, 0);
            same.forgive(0);
            same.forgive(0);
            Check.is("calls that change nothing are remembered too", 7, same::undoDepth);
            Audit x = Halls.full();
            String before = Halls.allThatIsSeen(x);
            Check.badState("throwDie", x, () -> x.throwDie(0, 0, 1));
            Check.noIndex("forgive", x, () -> x.forgive(6));
            Check.badArgument("setWeight", x, () -> x.setWeight(0, 1, 10));
            Check.badState("setWeight of the last weight", x, () -> x.setWeight(0, 2, 0));
            Check.badArgument("setSeed", x, () -> x.setSeed(-1));
            Check.badArgument("setLimits", x, () -> x.setLimits(0, 0));
            Check.badState("restore", x, () -> x.restore(0));
            Check.same("refused calls are not remembered", before, Halls.allThatIsSeen(x));
            Audit y = Halls.empty();
            Check.badState("absolve", y, y::absolve);
            Halls.failLoad(y, "hall 1 1 1;x");
            Check.is("a load with an error is not remembered", 1, y::undoDepth);
            y.save(0);
            y.writeRecords();
            y.truncateInput(0);
            y.appendInput(1, 2, 3, 4, 5);
            Check.is("no other method is remembered", 1, y::undoDepth);
            y.undo();
            Check.is("undo is not remembered", 0, y::undoDepth);
        });
    }

    private static void remembered() {
        Doc.says("The latest 8 undoable calls are remembered", () -> {
            for (int calls : new int[] {1, 7, 8, 9, 15, 16, 17, 24, 100}) {
                Audit x = new Audit();
                for (int i = 1; i <= calls; i++) {
                    x.setSeed(i);
                }
                int count = Math.min(calls, 8);
                Check.is("after " + calls, count, x::undoDepth);
                for (int i = 1; i <= count; i++) {
                    int seed = calls - i == 0 ? 23634 : calls - i;
                    x.undo();
                    Check.is("undo " + i + " of " + calls, seed, x::seed);
                }
                Check.badState("undo of one more", x, x::undo);
            }
            Audit y = new Audit();
            for (int i = 1; i <= 8; i++) {
                y.setSeed(i);
            }
            y.undo();
            y.undo();
            y.undo();
            for (int i = 101; i <= 104; i++) {
                y.setSeed(i);
            }
            Check.is("three undone and four new ones", 8, y::undoDepth);
            int[] seeds = {103, 102, 101, 5, 4, 3, 2, 1};
            for (int i = 0; i < 8; i++) {
                int due = seeds[i];
                y.undo();
                Check.is("back to " + due, due, y::seed);
            }
            Check.badState("no more", y, y::undo);
        });
        Doc.says("load does not discard them.", () -> {
            Audit x = new Audit();
            x.setSeed(3);
            Halls.load(x, "hall 5 1 1;");
            x.setSeed(6);
            Check.is("three", 3, x::undoDepth);
            x.undo();
            Check.is("the seed of the text", 5, x::seed);
            x.undo();
            Check.is("the seed before load", 3, x::seed);
            x.undo();
            Check.same("the first state", Halls.FIRST, Halls.state(x));
            x.setSeed(3);
            Halls.failLoad(x, "");
            Check.is("nor does a load with an error", 0, x::undo);
        });
    }

    private static void notPartOfTheState() {
        Doc.says("The input buffer, the error, the output and the slots are not part of the state.", () -> {
            Audit x = new Audit();
            x.save(0);
            x.setSeed(7);
            x.save(1);
            x.writeFaces(2);
            Halls.failLoad(x, "hall 1 1 1;?");
            Halls.put(x, "hall 3 4 5;");
            x.undo();
            Check.same("undo leaves the error and the output", Halls.FIRST + ", undo 0, error 1 at 11, output 1,1", Halls.allThatIsSeen(x));
            x.restore(1);
            Check.same("restore leaves them", Halls.FIRST.replace("23634", "7") + ", undo 1, error 1 at 11, output 1,1", Halls.allThatIsSeen(x));
            x.save(0);
            x.undo();
            x.restore(0);
            Check.is("undo leaves the slots", 7, x::seed);
            x.truncateInput(11);
            Check.is("undo and restore leave the input buffer", 0, x::load);
            Check.same("load leaves the output", "3 4 5, undo 2, error 0 at -1, output 1,1", Halls.allThatIsSeen(x));
            x.restore(1);
            Check.is("load leaves the slots", 7, x::seed);
        });
    }

    private static void refusedCalls() {
        Doc.says("A method that throws an exception changes nothing, unless its description says otherwise.", () -> {
            Audit x = prepared();
            x.save(0);
            x.writeRecords();
            Halls.put(x, "hall 3 4 5;");
            Check.badArgument("truncateInput", x, () -> x.truncateInput(12));
            Check.badArgument("throwDie", x, () -> x.throwDie(0, 0, 51));
            Check.noIndex("forgive", x, () -> x.forgive(3));
            Check.badArgument("setWeight", x, () -> x.setWeight(0, 7, 3));
            Check.badArgument("setSeed", x, () -> x.setSeed(65537));
            Check.badArgument("setLimits, the minimum is right", x, () -> x.setLimits(50, 1000));
            Check.badArgument("setLimits, the threshold is right", x, () -> x.setLimits(100, 500));
            Check.noIndex("writeFaces", x, () -> x.writeFaces(3));
            Check.noIndex("save", x, () -> x.save(2));
            Check.noIndex("restore", x, () -> x.restore(2));
            Check.noElement("outputByte", x, () -> x.outputByte(1000));
            Check.is("the input buffer stays", 11, () -> x.truncateInput(11));
            Check.is("its text stays", 0, x::load);
            Check.same("what it says", "3 4 5", Halls.state(x));
            Check.noElement("playerWithRank", x, () -> x.playerWithRank(0));
            Check.badState("absolve", x, x::absolve);
        });
    }

    private static void severalExceptions() {
        Doc.says("If several exceptions apply, the one that is listed first in the throws clause is thrown.", () -> {
            Audit x = Halls.full();
            Check.noIndex("nameByte", x, () -> x.nameByte(6, 9));
            Check.noIndex("weightOf", x, () -> x.weightOf(6, 0));
            Check.noIndex("frequency, no player", x, () -> x.frequency(6, 0, 0));
            Check.noIndex("frequency, no die", x, () -> x.frequency(0, 6, 0));
            Check.noIndex("faceAfter", x, () -> x.faceAfter(6, 0));
            Check.noIndex("throwsUntil", x, () -> x.throwsUntil(6, 0));
            Check.noIndex("scoreAfter, no player", x, () -> x.scoreAfter(6, 0, 51));
            Check.noIndex("scoreAfter, no die", x, () -> x.scoreAfter(0, 6, -1));
            Check.noIndex("throwDie, no player and a full record", x, () -> x.throwDie(6, 0, 1));
            Check.noIndex("throwDie, no die and a wrong count", x, () -> x.throwDie(0, 6, 0));
            Check.noIndex("throwDie, all three", x, () -> x.throwDie(-1, -1, 51));
            Check.badArgument("throwDie, a wrong count and a full record", x, () -> x.throwDie(0, 0, 51));
            Check.badArgument("throwDie, the count 0 and a full record", x, () -> x.throwDie(0, 0, 0));
            Check.noIndex("setWeight, no die", x, () -> x.setWeight(6, 0, 10));
            Check.badArgument("setWeight, no face and the weight 0", x, () -> x.setWeight(0, 3, 0));
            Check.badArgument("setWeight, the last weight and less than 0", x, () -> x.setWeight(0, 2, -1));
            Check.noIndex("restore, no slot and an empty one", x, () -> x.restore(2));
            Check.noIndex("writeFaces", x, () -> x.writeFaces(-1));
        });
    }

    /** Each method that asks a question, in a hall that has all that it may ask for. */
    private static Map<String, Consumer<Audit>> questionsOfAll() {
        Map<String, Consumer<Audit>> all = new LinkedHashMap<>();
        all.put("errorCode", Audit::errorCode);
        all.put("errorPosition", Audit::errorPosition);
        all.put("faces", x -> x.faces(1));
        all.put("weightOf", x -> x.weightOf(1, 4));
        all.put("isBalanced", x -> x.isBalanced(1));
        all.put("heaviestFace", x -> x.heaviestFace(1));
        all.put("throwsOf", x -> x.throwsOf(2));
        all.put("total", x -> x.total(2));
        all.put("meanFace", x -> x.meanFace(2));
        all.put("rankOf", x -> x.rankOf(2));
        all.put("playerWithRank", x -> x.playerWithRank(2));
        all.put("longestRun", x -> x.longestRun(2));
        all.put("findPlayer", Audit::findPlayer);
        all.put("throwsOfPair", x -> x.throwsOfPair(2, 1));
        all.put("frequency", x -> x.frequency(2, 1, 4));
        all.put("commonFace", x -> x.commonFace(2, 1));
        all.put("facesSeen", x -> x.facesSeen(2, 1));
        all.put("latestThrow", x -> x.latestThrow(2, 1));
        all.put("score", x -> x.score(2, 1));
        all.put("isSuspicious", x -> x.isSuspicious(2, 1));
        all.put("suspiciousPairs", Audit::suspiciousPairs);
        all.put("worstPair", Audit::worstPair);
        all.put("offencesOf", x -> x.offencesOf(2));
        all.put("nextFace", x -> x.nextFace(1));
        all.put("faceAfter", x -> x.faceAfter(1, 200));
        all.put("throwsUntil", x -> x.throwsUntil(1, 1));
        all.put("scoreAfter", x -> x.scoreAfter(2, 1, 50));
        all.put("throwsUntilSuspicious", x -> x.throwsUntilSuspicious(2, 1));
        all.put("penanceNow", Audit::penanceNow);
        all.put("frequencyDifference", Audit::frequencyDifference);
        all.put("totalDifference", Audit::totalDifference);
        all.put("fairShare", Audit::fairShare);
        all.put("undoDepth", Audit::undoDepth);
        return all;
    }

    private static void questions() {
        Doc.says("Methods that ask a question change nothing.", () -> questionsOfAll().forEach((name, question) -> {
            Audit x = prepared();
            x.writeRecords();
            Halls.failLoad(x, "hall 1 1 1;?");
            Halls.put(x, "bob");
            x.save(0);
            String before = Halls.everything(x);
            question.accept(x);
            Check.same(name, before, Halls.everything(x));
        }));
    }

    private static void firstState() {
        String text = "hall 1 6 3;die 1 1 1 1 1 1;die 0 1 1 4;player ann;player bob;player cid;throw ann 0 6;throw bob 1 8;throw ann 1 3;"
            + "audit;throw cid 0 2;";
        Doc.says("Before the first successful load the state is that of the text \"" + text + "\".", () -> {
            Check.same("a new object", Halls.FIRST, Halls.state(new Audit()));
            Check.same("the text", Halls.FIRST, Halls.state(Halls.loaded(text)));
            Audit x = new Audit();
            Halls.failLoad(x, "hall 1 1 1;?");
            Check.same("after a load with an error", Halls.FIRST, Halls.state(x));
        });
        Doc.says("The constants: `NONE = -1`: No such value.", () -> Check.is("NONE", -1, () -> DiceAudit.NONE));
    }
}
