/** Promises 7 to 17: the hall, its dice and its players. */
final class HallPromises {
    private static final String TEXT = "hall 123 45 678;die 0 1 1 4;die 2 2;die 7 9 9 1 1 1 1 1 1 1 1 9;die 3 3 2;die 2 3 3;"
        + "player q;player abcd;";

    private HallPromises() {
    }

    static void test() {
        values();
        counts();
        faces();
        weightOf();
        isBalanced();
        heaviestFace();
        nameByte();
    }

    private static void values() {
        Doc.promise(7);
        Doc.says("Returns the seed.", () -> {
            Check.is("of the text", 123, () -> Halls.loaded(TEXT).seed());
            Check.is("the least", 0, () -> Halls.loaded("hall 0 1 1;").seed());
            Check.is("the greatest", 65536, () -> Halls.loaded("hall 65536 1 1;").seed());
            Audit x = Halls.loaded("hall 1 1 1;die 1 1;player a;throw a 0 1;");
            Check.is("after a throw of the text", 149, x::seed);
            x.throwDie(0, 0, 1);
            Check.is("after another throw", 11249, x::seed);
        });
        Doc.promise(8);
        Doc.says("Returns the minimum.", () -> {
            Check.is("of the text", 45, () -> Halls.loaded(TEXT).minimum());
            Check.is("the least", 1, () -> Halls.loaded("hall 3 1 2;").minimum());
            Check.is("the greatest", 99, () -> Halls.loaded("hall 3 99 2;").minimum());
        });
        Doc.promise(9);
        Doc.says("Returns the threshold.", () -> {
            Check.is("of the text", 678, () -> Halls.loaded(TEXT).threshold());
            Check.is("the least", 0, () -> Halls.loaded("hall 3 2 0;").threshold());
            Check.is("the greatest", 999, () -> Halls.loaded("hall 3 2 999;").threshold());
        });
    }

    private static void counts() {
        Doc.promise(10);
        Doc.says("Returns the number of dice.", () -> {
            Check.is("of the text", 5, () -> Halls.loaded(TEXT).dieCount());
            Check.is("none", 0, () -> Halls.empty().dieCount());
            Check.is("six", 6, () -> Halls.full().dieCount());
            Check.is("one after six", 1, () -> Halls.shrunk().dieCount());
        });
        Doc.promise(11);
        Doc.says("Returns the number of players.", () -> {
            Check.is("of the text", 2, () -> Halls.loaded(TEXT).playerCount());
            Check.is("none", 0, () -> Halls.empty().playerCount());
            Check.is("six", 6, () -> Halls.full().playerCount());
            Check.is("one after six", 1, () -> Halls.shrunk().playerCount());
        });
        Doc.promise(12);
        Doc.says("Returns the number of throws in the record.", () -> {
            Audit x = Halls.loaded(TEXT);
            Check.is("none", 0, x::throwCount);
            x.throwDie(1, 1, 7);
            Check.is("seven", 7, x::throwCount);
            x.undo();
            Check.is("none again", 0, x::throwCount);
            Check.is("300", 300, () -> Halls.full().throwCount());
            Check.is("one after 300", 1, () -> Halls.shrunk().throwCount());
        });
    }

    private static void faces() {
        Doc.promise(13);
        Doc.says("Returns the number of its faces.", () -> {
            Audit x = Halls.loaded(TEXT);
            int[] faces = {4, 2, 12, 3, 3};
            for (int i = 0; i < faces.length; i++) {
                int die = i;
                Check.is("die " + die, faces[die], () -> x.faces(die));
            }
        });
        Doc.says("Throws `IndexOutOfBoundsException` if the die does not exist", () -> Missing.die(Audit::faces));
    }

    private static void weightOf() {
        Doc.promise(14);
        Doc.says("`face`: a face, from 1", () -> {
            Audit x = Halls.loaded(Halls.HALL + "die 7 8 9;die 1 2 3 4 5 6 7 8 9 0 1 2;");
            Check.is("the first face", 7, () -> x.weightOf(0, 1));
            Check.is("the last face", 9, () -> x.weightOf(0, 3));
            Check.is("the first face of twelve", 1, () -> x.weightOf(1, 1));
            Check.is("the last face of twelve", 2, () -> x.weightOf(1, 12));
        });
        Doc.says("Returns the weight of the face.", () -> {
            Audit x = Halls.loaded(TEXT);
            Check.is("the least weight", 0, () -> x.weightOf(0, 1));
            Check.is("the greatest weight", 9, () -> x.weightOf(2, 3));
            x.setWeight(2, 3, 0);
            Check.is("a new weight", 0, () -> x.weightOf(2, 3));
            x.undo();
            Check.is("the weight before", 9, () -> x.weightOf(2, 3));
        });
        Doc.says("Throws `IndexOutOfBoundsException` if the die does not exist", () -> Missing.die((x, die) -> x.weightOf(die, 1)));
        Doc.says("Throws `IllegalArgumentException` if the face is not a face of the die", () -> Missing.face(Audit::weightOf));
    }

    private static void isBalanced() {
        Doc.promise(15);
        Doc.says("Returns whether the die is balanced.", () -> {
            Audit x = Halls.loaded(TEXT);
            boolean[] balanced = {false, true, false, false, false};
            for (int i = 0; i < balanced.length; i++) {
                int die = i;
                Check.is("die " + die, balanced[die] ? 1 : 0, () -> x.isBalanced(die) ? 1 : 0);
            }
        });
        Doc.says("Throws `IndexOutOfBoundsException` if the die does not exist", () -> Missing.die((x, die) -> x.isBalanced(die) ? 1 : 0));
    }

    private static void heaviestFace() {
        Doc.promise(16);
        Doc.says("Returns the face with the greatest weight", () -> {
            Audit x = Halls.loaded(Halls.HALL + "die 9 8 8;die 8 8 9;die 0 1 0;die 8 9 8 8 8 8 8 8 8 8 8 8;"
                + "die 0 0 0 0 0 0 0 0 0 0 0 1;");
            int[] heaviest = {1, 3, 2, 2, 12};
            for (int i = 0; i < heaviest.length; i++) {
                int die = i;
                Check.is("die " + die, heaviest[die], () -> x.heaviestFace(die));
            }
        });
        Doc.says("the smallest number if several have it.", () -> {
            Audit x = Halls.loaded(Halls.HALL + "die 1 1;die 0 1 1;die 8 9 9;die 9 0 9;die 0 0 0 0 0 0 0 0 0 0 1 1;"
                + "die 9 9 9 9 9 9 9 9 9 9 9 9;");
            int[] heaviest = {1, 2, 2, 1, 11, 1};
            for (int i = 0; i < heaviest.length; i++) {
                int die = i;
                Check.is("die " + die, heaviest[die], () -> x.heaviestFace(die));
            }
        });
        Doc.says("Throws `IndexOutOfBoundsException` if the die does not exist", () -> Missing.die(Audit::heaviestFace));
    }

    private static void nameByte() {
        Doc.promise(17);
        Doc.says("`position`: a position in the name, from 0", () -> {
            Audit x = Halls.loaded(TEXT);
            Check.is("the only position", 'q', () -> x.nameByte(0, 0));
            for (int i = 0; i < 4; i++) {
                int position = i;
                Check.is("position " + position + " of abcd", 'a' + position, () -> x.nameByte(1, position));
            }
        });
        Doc.says("Returns the letter at this position as a byte.", () -> {
            Audit x = Halls.loaded(Halls.HALL + "player az;");
            Check.is("the first letter", 97, () -> x.nameByte(0, 0));
            Check.is("the last letter", 122, () -> x.nameByte(0, 1));
        });
        Doc.says("Throws `IndexOutOfBoundsException` if the player does not exist", () -> Missing.player((x, player) -> x.nameByte(player, 0)));
        Doc.says("Throws `NoSuchElementException` if the name has no such position", () -> {
            Audit x = Halls.loaded(Halls.HALL + "player abcd;player z;player ab;player bcde;");
            int[] lengths = {4, 1, 2, 4};
            for (int i = 0; i < lengths.length; i++) {
                int player = i;
                for (int no : new int[] {lengths[player], lengths[player] + 1, 4, 5, -1, -4, Integer.MIN_VALUE, Integer.MAX_VALUE}) {
                    Check.noElement("position " + no + " of player " + player, x, () -> x.nameByte(player, no));
                }
            }
            Halls.load(x, Halls.HALL + "player y;");
            Check.noElement("a letter of an earlier text", x, () -> x.nameByte(0, 1));
        });
    }
}
