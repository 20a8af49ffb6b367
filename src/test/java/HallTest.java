/** Promises 7 to 17: the hall, its dice and its players. */
public final class HallTest {
    private static final String TEXT = "hall 123 45 678;die 0 1 1 4;die 2 2;die 7 9 9 1 1 1 1 1 1 1 1 9;die 3 3 2;die 2 3 3;"
        + "player q;player abcd;";

    public static void main(String[] args) {
        values();
        dice();
        names();
        Check.finish("HallTest");
    }

    private static void values() {
        DiceAudit x = Check.loaded(TEXT);
        Check.is("promise 7", 123, x::seed);
        Check.is("promise 8", 45, x::minimum);
        Check.is("promise 9", 678, x::threshold);
        Check.is("promise 10", 5, x::dieCount);
        Check.is("promise 11", 2, x::playerCount);
        Check.is("promise 12", 0, x::throwCount);
        x.throwDie(1, 1, 7);
        Check.is("promise 12: after throws", 7, x::throwCount);
        DiceAudit y = Check.loaded(Check.HALL);
        Check.is("promise 10: no dice", 0, y::dieCount);
        Check.is("promise 11: no players", 0, y::playerCount);
    }

    private static void dice() {
        DiceAudit x = Check.loaded(TEXT);
        int[] faces = {4, 2, 12, 3, 3};
        int[] heaviest = {4, 1, 2, 1, 2};
        boolean[] balanced = {false, true, false, false, false};
        for (int i = 0; i < faces.length; i++) {
            int die = i;
            Check.is("promise 13: die " + die, faces[die], () -> x.faces(die));
            Check.is("promise 15: die " + die, balanced[die] ? 1 : 0, () -> x.isBalanced(die) ? 1 : 0);
            Check.is("promise 16: die " + die, heaviest[die], () -> x.heaviestFace(die));
            Check.badArgument("promise 14: face 0", () -> x.weightOf(die, 0));
            Check.badArgument("promise 14: a face too many", () -> x.weightOf(die, faces[die] + 1));
        }
        for (int no : new int[] {-1, 5, 6, 1000, Integer.MIN_VALUE, Integer.MAX_VALUE}) {
            Check.noIndex("promise 13: die " + no, () -> x.faces(no));
            Check.noIndex("promise 14: die " + no, () -> x.weightOf(no, 1));
            Check.noIndex("promise 14: die and face " + no, () -> x.weightOf(no, no));
            Check.noIndex("promise 15: die " + no, () -> x.isBalanced(no) ? 1 : 0);
            Check.noIndex("promise 16: die " + no, () -> x.heaviestFace(no));
        }
        Check.is("promise 16: no weight above 1", 2, () -> Check.loaded(Check.HALL + "die 0 1 1;").heaviestFace(0));
        Check.is("promise 14: the first face", 0, () -> x.weightOf(0, 1));
        Check.is("promise 14: the last face", 4, () -> x.weightOf(0, 4));
        Check.is("promise 14: of twelve", 9, () -> x.weightOf(2, 12));
        Check.badArgument("promise 14: a great face", () -> x.weightOf(0, Integer.MAX_VALUE));
        Check.badArgument("promise 14: a face below all", () -> x.weightOf(0, Integer.MIN_VALUE));
    }

    private static void names() {
        DiceAudit x = Check.loaded(TEXT);
        Check.is("promise 17: q", 'q', () -> x.nameByte(0, 0));
        Check.is("promise 17: the first of abcd", 'a', () -> x.nameByte(1, 0));
        Check.is("promise 17: the last of abcd", 'd', () -> x.nameByte(1, 3));
        Check.noElement("promise 17: behind q", () -> x.nameByte(0, 1));
        Check.noElement("promise 17: behind abcd", () -> x.nameByte(1, 4));
        Check.noElement("promise 17: before abcd", () -> x.nameByte(1, -1));
        Check.noElement("promise 17: far behind", () -> x.nameByte(1, Integer.MAX_VALUE));
        Check.noIndex("promise 17: no such player", () -> x.nameByte(2, 0));
        Check.noIndex("promise 17: player -1", () -> x.nameByte(-1, 0));
        Check.noIndex("promise 17: neither player nor position", () -> x.nameByte(6, 9));
    }
}
