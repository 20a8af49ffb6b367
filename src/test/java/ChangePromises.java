/** Promises 49 to 52 and 56 to 58: throws, weights, the seed, the limits and what is always so. */
final class ChangePromises {
    private static final String NO_DIE = "Throws `IndexOutOfBoundsException` if the die does not exist";

    private ChangePromises() {
    }

    static void test() {
        differences();
        fairShare();
        throwDie();
        refusedThrows();
        setWeight();
        setWeightArguments();
        refusedWeights();
        setSeed();
        setLimits();
    }

    private static void alwaysZero(Missing.NumberCall call) {
        Audit x = new Audit();
        for (int i = 0; i < 12; i++) {
            Check.is("before step " + i, 0, () -> call.answer(x, 0));
            x.throwDie(i % 3, i % 2, 20);
            Check.is("after the throws of step " + i, 0, () -> call.answer(x, 0));
            if (i % 4 == 3) {
                x.audit();
                x.absolve();
            }
        }
        x.undo();
        Check.is("after undo", 0, () -> call.answer(x, 0));
        for (Audit hall : Halls.all()) {
            Check.is("a hall with " + hall.throwCount() + " throws", 0, () -> call.answer(hall, 0));
        }
        Audit many = Halls.manyThrows("die 0 0 0 0 0 0 0 0 0 0 0 1;");
        many.audit();
        many.absolve();
        Check.is("300 fair throws", 0, () -> call.answer(many, 0));
        Check.is("the first and the last face of all", 0, () -> call.answer(PairPromises.neighbours(), 0));
    }

    private static void differences() {
        Doc.promise(49);
        Doc.says("Returns the sum of the frequencies of all faces of all pairs minus the number of throws in the record",
            () -> alwaysZero((x, number) -> x.frequencyDifference()));
        Doc.says("this is always 0.", () -> alwaysZero((x, number) -> x.frequencyDifference()));
        Doc.promise(50);
        Doc.says("Returns the sum of the totals of all players minus the sum of the faces of all throws in the record",
            () -> alwaysZero((x, number) -> x.totalDifference()));
        Doc.says("this is always 0.", () -> alwaysZero((x, number) -> x.totalDifference()));
    }

    private static void fairShare() {
        Doc.promise(51);
        Doc.says("Returns the number of marked throws in the record converted to float, divided by the number of throws in the record"
            + " converted to float", () -> {
            Audit x = new Audit();
            Check.is("no fair throws", 0, x::fairShare);
            x.absolve();
            Check.is("8 of 19", 8.0f / 19.0f, x::fairShare);
            x.absolve();
            Check.is("14 of 19", 14.0f / 19.0f, x::fairShare);
            x.throwDie(0, 0, 2);
            Check.is("14 of 21", 14.0f / 21.0f, x::fairShare);
            Audit many = Halls.manyThrows("die 0 1;");
            many.audit();
            many.absolve();
            Check.is("300 of 300", 1.0f, many::fairShare);
            Halls.load(many, "hall 1 1 0;die 0 1;player a;throw a 0 1;audit;absolve;throw a 0 1;");
            Check.is("1 of 2", 0.5f, many::fairShare);
            Halls.load(many, "hall 1 1 0;die 0 1;player a;throw a 0 5;audit;absolve;");
            Halls.load(many, "hall 1 1 0;die 0 1;player a;throw a 0 3;");
            Check.is("none of 3, after a text with 5 of 5", 0.0f, many::fairShare);
        });
        Doc.says("0.0f if there are none.", () -> {
            Audit x = Halls.empty();
            Check.is("no throws", 0.0f, x::fairShare);
            Check.is("no throws, and the sign is +", 0, () -> Float.floatToIntBits(x.fairShare()));
            Audit y = Halls.loaded(Halls.HALL + "die 1 1;player a;");
            y.throwDie(0, 0, 1);
            y.undo();
            Check.is("no throws any more", 0.0f, y::fairShare);
        });
    }

    private static void throwDie() {
        Doc.promise(52);
        Doc.says("A player throws a die several times.", () -> {
            Audit x = new Audit();
            x.throwDie(1, 0, 4);
            Check.same("the record", Halls.record(new Audit()) + " 10:6 10:3 10:4 10:4", Halls.record(x));
            Check.same("the queue stays", Halls.queue(new Audit()), Halls.queue(x));
            x.undo();
            Check.same("undone", Halls.FIRST, Halls.state(x));
        });
        Doc.says("`count`: a number of throws, 1 to 50", () -> {
            Audit x = Halls.loaded("hall 1 1 1;die 0 1;player a;");
            // The seed 1 becomes 149.
            Check.is("once", 2, () -> x.throwDie(0, 0, 1));
            Check.is("the seed", 149, x::seed);
            Check.is("one throw", 1, x::throwCount);
            Check.is("fifty times", 100, () -> x.throwDie(0, 0, 50));
            Check.is("51 throws", 51, x::throwCount);
        });
        Doc.says("Returns the sum of the faces.", () -> {
            Audit x = new Audit();
            Check.is("6 3 4 4", 17, () -> x.throwDie(1, 0, 4));
            Check.is("the greatest sum", 600, () -> Halls.loaded("hall 1 1 1;die 0 0 0 0 0 0 0 0 0 0 0 1;player a;").throwDie(0, 0, 50));
            Check.is("the least sum", 1, () -> Halls.loaded("hall 1 1 1;die 1 0;player a;").throwDie(0, 0, 1));
        });
    }

    private static void refusedThrows() {
        Doc.says("Throws `IndexOutOfBoundsException` if the player or the die does not exist",
            () -> Missing.pair((x, player, die) -> x.throwDie(player, die, 1)));
        Doc.says("Throws `IllegalArgumentException` if the number of throws is out of range",
            () -> Missing.outOfRange(1, 50, (x, count) -> x.throwDie(0, 0, count)));
        Doc.says("Throws `IllegalStateException` if the record would have more than 300 throws", () -> {
            Audit x = Halls.loaded("hall 1 1 1;die 0 1;player a;player b;" + "throw a 0 50;".repeat(5));
            x.throwDie(1, 0, 1);
            Check.badState("251 and 50", x, () -> x.throwDie(0, 0, 50));
            Check.is("251 and 49", 98, () -> x.throwDie(1, 0, 49));
            Check.is("300 throws", 300, x::throwCount);
            Check.badState("300 and 1", x, () -> x.throwDie(0, 0, 1));
            Check.badState("300 and 50", x, () -> x.throwDie(1, 0, 50));
            x.undo();
            Check.is("there is room again", 2, () -> x.throwDie(1, 0, 1));
            Audit y = Halls.loaded("hall 1 1 1;die 0 1;player a;" + "throw a 0 50;".repeat(5));
            Check.is("250 and 50", 100, () -> y.throwDie(0, 0, 50));
            Check.badState("nothing more", y, () -> y.throwDie(0, 0, 1));
        });
    }

    private static void setWeight() {
        Doc.promise(56);
        Doc.says("Sets the weight of a face.", () -> {
            Audit x = Halls.loaded("hall 1 1 1;die 1 2;die 1 1 1 1 1 1 1 1 1 1 1 1;die 3 4 5;");
            x.setWeight(1, 12, 9);
            Check.same("the last face of twelve", "1 1 1 die 1 2 die 1 1 1 1 1 1 1 1 1 1 1 9 die 3 4 5", Halls.state(x));
            x.setWeight(1, 1, 0);
            Check.same("the first face of twelve", "1 1 1 die 1 2 die 0 1 1 1 1 1 1 1 1 1 1 9 die 3 4 5", Halls.state(x));
            x.setWeight(0, 2, 0);
            x.setWeight(2, 1, 8);
            Check.same("the other dice", "1 1 1 die 1 0 die 0 1 1 1 1 1 1 1 1 1 1 9 die 8 4 5", Halls.state(x));
            x.undo();
            x.undo();
            Check.same("undone", "1 1 1 die 1 2 die 0 1 1 1 1 1 1 1 1 1 1 9 die 3 4 5", Halls.state(x));
        });
        Doc.says("The record does not change.", () -> {
            Audit x = new Audit();
            x.setWeight(0, 6, 0);
            x.setWeight(1, 1, 9);
            Check.same("the record", Halls.record(new Audit()), Halls.record(x));
            Check.is("a face that has no weight any more", 3, () -> x.frequency(0, 0, 6));
            Check.is("the score", 8, () -> x.score(0, 0));
            Check.same("the queue", Halls.queue(new Audit()), Halls.queue(x));
            Check.is("the seed", 23634, x::seed);
        });
    }

    private static void setWeightArguments() {
        Doc.says("`face`: a face, from 1", () -> {
            Audit x = new Audit();
            x.setWeight(0, 1, 7);
            x.setWeight(0, 6, 8);
            Check.is("the first face", 7, () -> x.weightOf(0, 1));
            Check.is("the last face", 8, () -> x.weightOf(0, 6));
        });
        Doc.says("`weight`: a weight, 0 to 9", () -> {
            Audit x = new Audit();
            x.setWeight(0, 3, 0);
            Check.is("the least", 0, () -> x.weightOf(0, 3));
            x.setWeight(0, 3, 9);
            Check.is("the greatest", 9, () -> x.weightOf(0, 3));
            x.setWeight(0, 3, 1);
            Check.yes("the die is balanced again", () -> x.isBalanced(0));
        });
        Doc.says("Returns the previous weight.", () -> {
            Audit x = new Audit();
            Check.is("1 to 9", 1, () -> x.setWeight(0, 6, 9));
            Check.is("9 to 0", 9, () -> x.setWeight(0, 6, 0));
            Check.is("0 to 0", 0, () -> x.setWeight(0, 6, 0));
            Check.is("0 to 9", 0, () -> x.setWeight(0, 6, 9));
            Check.is("9 to 9", 9, () -> x.setWeight(0, 6, 9));
            Check.is("1 to 1, of two faces", 1, () -> Halls.loaded("hall 1 1 1;die 1 1;").setWeight(0, 2, 1));
        });
    }

    private static void refusedWeights() {
        Doc.says(NO_DIE, () -> Missing.die((x, die) -> x.setWeight(die, 1, 1)));
        Doc.says("Throws `IllegalArgumentException` if the face is not a face of the die or the weight is out of range", () -> {
            Missing.face((x, die, face) -> x.setWeight(die, face, 5));
            Missing.outOfRange(0, 9, (x, weight) -> x.setWeight(0, 1, weight));
        });
        Doc.says("Throws `IllegalStateException` if all weights of the die would be 0", () -> {
            Audit x = Halls.loaded("hall 1 1 1;die 1 1;die 0 0 0 0 0 0 0 0 0 0 0 1;die 1 0;");
            Check.badState("the last face of twelve", x, () -> x.setWeight(1, 12, 0));
            Check.badState("the first face of two", x, () -> x.setWeight(2, 1, 0));
            Check.is("another 0 is fine", 0, () -> x.setWeight(2, 2, 0));
            Check.is("another weight is fine", 1, () -> x.setWeight(2, 1, 9));
            Check.badState("the greatest weight as the last one", x, () -> x.setWeight(2, 1, 0));
            Check.is("one of two", 1, () -> x.setWeight(0, 1, 0));
            Check.badState("the second of two", x, () -> x.setWeight(0, 2, 0));
        });
    }

    private static void setSeed() {
        Doc.promise(57);
        Doc.says("Sets the seed.", () -> {
            Audit x = new Audit();
            x.setSeed(1);
            Check.same("the state", Halls.FIRST.replace("23634", "1"), Halls.state(x));
            Check.is("the next throw", 149 % 6 + 1, () -> x.nextFace(0));
            x.undo();
            Check.same("undone", Halls.FIRST, Halls.state(x));
        });
        Doc.says("`seed`: a seed, 0 to 65536", () -> {
            Audit x = new Audit();
            x.setSeed(0);
            Check.is("the least", 0, x::seed);
            x.setSeed(65536);
            Check.is("the greatest", 65536, x::seed);
        });
        Doc.says("Returns the previous seed.", () -> {
            Audit x = new Audit();
            Check.is("the first", 23634, () -> x.setSeed(65536));
            Check.is("the greatest", 65536, () -> x.setSeed(0));
            Check.is("the least", 0, () -> x.setSeed(0));
        });
        Doc.says("Throws `IllegalArgumentException` if the seed is out of range", () -> Missing.outOfRange(0, 65536, Audit::setSeed));
    }

    private static void setLimits() {
        Doc.promise(58);
        Doc.says("Sets the minimum and the threshold.", () -> {
            Audit x = new Audit();
            x.setLimits(12, 34);
            Check.same("the state", Halls.FIRST.replace("23634 6 3", "23634 12 34"), Halls.state(x));
            x.undo();
            Check.same("undone", Halls.FIRST, Halls.state(x));
        });
        Doc.says("The queue does not change.", () -> {
            Audit x = new Audit();
            x.setLimits(99, 999);
            Check.same("no pair is suspicious any more", Halls.queue(new Audit()), Halls.queue(x));
            x.setLimits(1, 0);
            Check.same("more pairs are suspicious", Halls.queue(new Audit()), Halls.queue(x));
        });
        Doc.says("`minimum`: a minimum, 1 to 99", () -> {
            Audit x = new Audit();
            x.setLimits(1, 5);
            Check.is("the least", 1, x::minimum);
            x.setLimits(99, 5);
            Check.is("the greatest", 99, x::minimum);
        });
        Doc.says("`threshold`: a threshold, 0 to 999", () -> {
            Audit x = new Audit();
            x.setLimits(5, 0);
            Check.is("the least", 0, x::threshold);
            x.setLimits(5, 999);
            Check.is("the greatest", 999, x::threshold);
        });
        Doc.says("Returns the number of suspicious pairs afterwards.", () -> {
            Audit x = new Audit();
            Check.is("the least limits", 4, () -> x.setLimits(1, 0));
            Check.is("the greatest limits", 0, () -> x.setLimits(99, 999));
            Check.is("one pair", 1, () -> x.setLimits(7, 0));
            Check.is("all 36 pairs", 36, () -> Halls.full().setLimits(8, 7));
            Check.is("no pairs", 0, () -> Halls.empty().setLimits(1, 0));
        });
        Doc.says("Throws `IllegalArgumentException` if an argument is out of range", () -> {
            Missing.outOfRange(1, 99, (x, minimum) -> x.setLimits(minimum, 3));
            Missing.outOfRange(0, 999, (x, threshold) -> x.setLimits(6, threshold));
            Audit x = new Audit();
            Check.badArgument("both are too small", x, () -> x.setLimits(0, -1));
            Check.badArgument("both are too large", x, () -> x.setLimits(100, 1000));
        });
    }
}
