/** Promises 4 to 6 again: the statements of the input text and the errors that it may have. */
public final class LoadTest {
    private static final String DIE = Check.HALL + "die 0 1;";
    private static final String SIX_DICE = Check.HALL + "die 1 1;die 1 1;die 1 1;die 1 1;die 1 1;die 1 1;";
    private static final String SIX_PLAYERS = Check.HALL + "player a;player b;player c;player d;player e;player f;";
    private static final String TWELVE = Check.HALL + "die 1 2 3 4 5 6 7 8 9 0 1 2";

    public static void main(String[] args) {
        tokens();
        hall();
        dice();
        diceLimits();
        players();
        throwing();
        throwingLimits();
        auditing();
        absolving();
        forgiving();
        Check.finish("LoadTest");
    }

    private static void wrong(String text, int code, int position) {
        DiceAudit x = new DiceAudit();
        String what = "load of " + text;
        Check.badArgument(what, () -> Check.load(x, text));
        Check.is(what + ", code", code, x::errorCode);
        Check.is(what + ", position", position, x::errorPosition);
        Check.same(what + ", state", InputTest.FIRST, Check.state(x));
    }

    private static void right(String text, String state) {
        DiceAudit x = new DiceAudit();
        Check.is("load of " + text, 0, () -> 0 * Check.load(x, text));
        Check.is("load of " + text + ", code", 0, x::errorCode);
        Check.is("load of " + text + ", position", -1, x::errorPosition);
        Check.same("load of " + text, state, Check.state(x));
    }

    private static void tokens() {
        wrong("", 1, 0);
        wrong("  \n", 1, 3);
        wrong("hall", 1, 4);
        wrong("hall 1 1 1", 1, 10);
        wrong("hall 1 1 1 \n ", 1, 13);
        wrong("hall\t1 1 1;", 1, 4);
        wrong("hall 1 1 1;\r", 1, 11);
        wrong("hall 1 1 1;\0", 1, 11);
        wrong("hall 1 1 1;\u00e9", 1, 11);
        wrong("hall 1 1 1;\u00ff", 1, 11);
        wrong("hall 1 1 1; ;", 1, 12);
        wrong("hall 1 1 1;x", 1, 11);
        wrong("hall 1 1 1;7", 1, 11);
        wrong("hall 1 1 1;dies 1 1;", 1, 11);
        wrong("hall 1 1 1;di 1 1;", 1, 11);
        wrong("hall 1 1 1;Die 1 1;", 1, 11);
        wrong("hall 1 1 1;tie 1 1;", 1, 11);
        wrong("hall 1 1 1;did 1 1;", 1, 11);
        wrong("hall 1 1 1;die 1 1;player`", 1, 25);
        wrong("hall 1 1 1;die 1 1;player{", 1, 25);
        wrong("hall 1 1 1;die 1 1/", 1, 18);
        wrong("hall 1 1 1;die 1 1:", 1, 18);
        right("  hall\n1 \n 1 1 ; ", "1 1 1");
        right("hall1 1 1;die1 1;player a;throw a0 1;", "149 1 1 die 1 1 a 00:2");
    }

    private static void hall() {
        right("hall 65536 99 999;", "65536 99 999");
        right("hall 0 1 0;", "0 1 0");
        right("hall 00000000000000000000065536 0099 000;", "65536 99 0");
        wrong("hall 65537 1 0;", 2, 5);
        wrong("hall 0 0 0;", 2, 7);
        wrong("hall 0 100 0;", 2, 7);
        wrong("hall 0 1 1000;", 2, 9);
        wrong("hall 4294967297 1 1;", 2, 5);
        wrong("hall 18446744073709551617 1 1;", 2, 5);
        wrong("hall 1000000000000000000000000000000000000000000 1 1;", 2, 5);
        wrong("hall -1 1 1;", 1, 5);
        wrong("hall one 1 1;", 1, 5);
        wrong("hall 1 1;", 1, 8);
        wrong("hall 1 1 1 1;", 1, 11);
        wrong("hall 1 1 1 player a;", 1, 11);
        wrong("hal 1 1 1;", 1, 0);
        wrong("halls 1 1 1;", 1, 0);
        wrong("Hall 1 1 1;", 1, 0);
        wrong("die 1 1;", 1, 0);
        wrong("audit;", 1, 0);
        wrong(";", 1, 0);
        wrong("hall 1 1 1;hall 1 1 1;", 1, 11);
        wrong("hall 70000 0 1000;", 2, 5);
    }

    private static void dice() {
        right(Check.HALL + "die 0 9;die 03 0000 1;", "1 1 1 die 0 9 die 3 0 1");
        right(TWELVE + ";", "1 1 1 die 1 2 3 4 5 6 7 8 9 0 1 2");
        wrong(Check.HALL + "die;", 1, 14);
        wrong(Check.HALL + "die", 1, 14);
        wrong(Check.HALL + "die 1;", 1, 16);
        wrong(Check.HALL + "die 0;", 1, 16);
        wrong(Check.HALL + "die 10 1;", 2, 15);
        wrong(Check.HALL + "die 1 10;", 2, 17);
        wrong(Check.HALL + "die 1 1 10;", 2, 19);
        wrong(Check.HALL + "die a 1;", 1, 15);
        wrong(Check.HALL + "die 1 a;", 1, 17);
        wrong(Check.HALL + "die 1 1,", 1, 18);
        wrong(Check.HALL + "die 1 1", 1, 18);
        wrong(Check.HALL + "die 1 1 ", 1, 19);
        wrong(Check.HALL + "die 0 0;", 6, 18);
        wrong(Check.HALL + "die 0 0 0 0 0 0 0 0 0 0 0 0;", 6, 38);
        wrong(Check.HALL + "die 0 0 die", 1, 19);
    }

    private static void diceLimits() {
        wrong(TWELVE + " 1;", 5, 39);
        wrong(TWELVE + " 9;", 5, 39);
        wrong(TWELVE + " 10;", 2, 39);
        wrong(TWELVE + " die", 1, 39);
        wrong(TWELVE + " ,", 1, 39);
        wrong(TWELVE, 1, 38);
        wrong(Check.HALL + "die 0 0 0 0 0 0 0 0 0 0 0 0 0;", 5, 39);
        right(SIX_DICE, "1 1 1 die 1 1 die 1 1 die 1 1 die 1 1 die 1 1 die 1 1");
        wrong(SIX_DICE + "die 1 1;", 5, 59);
        wrong(SIX_DICE + "die", 5, 59);
        wrong(SIX_DICE + "dice", 1, 59);
    }

    private static void players() {
        right(Check.HALL + "player abcd;player z;", "1 1 1 abcd z");
        right(Check.HALL + "player die;player hall;player a;player aa;", "1 1 1 die hall a aa");
        right(SIX_PLAYERS, "1 1 1 a b c d e f");
        wrong(SIX_PLAYERS + "player g;", 5, 65);
        wrong(SIX_PLAYERS + "player a;", 5, 65);
        wrong(SIX_PLAYERS + "player", 5, 65);
        wrong(Check.HALL + "player;", 1, 17);
        wrong(Check.HALL + "player", 1, 17);
        wrong(Check.HALL + "player 1;", 1, 18);
        wrong(Check.HALL + "player A;", 1, 18);
        wrong(Check.HALL + "player abcde;", 2, 18);
        wrong(Check.HALL + "player player;", 2, 18);
        wrong(Check.HALL + "player ab c;", 1, 21);
        wrong(Check.HALL + "player aB;", 1, 19);
        wrong(Check.HALL + "player ab", 1, 20);
        wrong(Check.HALL + "player ab;player ab;", 3, 28);
        wrong(Check.HALL + "player ab;player cd;player ab", 3, 38);
    }

    private static void throwing() {
        String before = DIE + "player a;player throw;";
        wrong(before, 2, 35);
        before = DIE + "player a;player thro;";
        right(before + "throw a 0 2;throw thro 0 1;throw a 0 01;",
            "38044 1 1 die 0 1 a thro 00:2 00:2 10:2 00:2");
        wrong(before + "throw b 0 1;", 4, 46);
        wrong(before + "throw throw 0 1;", 4, 46);
        wrong(before + "throw 0 0 1;", 1, 46);
        wrong(before + "throw;", 1, 45);
        wrong(before + "throw a 1 1;", 2, 48);
        wrong(before + "throw a -1 1;", 1, 48);
        wrong(before + "throw a a 1;", 1, 48);
        wrong(before + "throw a 0 0;", 2, 50);
        wrong(before + "throw a 0 51;", 2, 50);
        wrong(before + "throw a 0;", 1, 49);
        wrong(before + "throw a 0 1 1;", 1, 52);
        wrong(before + "throw a 0 1", 1, 51);
        wrong(Check.HALL + "player a;throw a 0 1;", 2, 28);
        wrong(Check.HALL + "throw a 0 1;", 4, 17);
        wrong(Check.HALL + "die 1 1;throw a 0 1;player a;", 4, 25);
    }

    private static void throwingLimits() {
        String full = DIE + "player a;" + "throw a 0 50;".repeat(6);
        DiceAudit x = new DiceAudit();
        Check.is("load of 300 throws", 300, () -> Check.load(x, full));
        wrong(full + "throw a 0 1;", 6, 28 + 78 + 11);
        wrong(full + "throw a 0 1", 1, 28 + 78 + 11);
        wrong(full + "throw a 0 51;", 2, 28 + 78 + 10);
        wrong(full + "throw b 0 1;", 4, 28 + 78 + 6);
        String nearly = DIE + "player a;" + "throw a 0 50;".repeat(5) + "throw a 0 49;";
        Check.is("load up to 300 throws", 300, () -> Check.load(x, nearly + "throw a 0 1;"));
        wrong(nearly + "throw a 0 2;", 6, 28 + 78 + 11);
    }

    private static void auditing() {
        // Three throws with the same face of two: the score is 3.
        String before = "hall 1 3 2;die 0 1;die 1 0;player a;throw a 0 3;";
        right(before + "audit;", "57305 3 2 die 0 1 die 1 0 a 00:2 00:2 00:2 offence 00=3");
        right(before + "audit;audit;", "57305 3 2 die 0 1 die 1 0 a 00:2 00:2 00:2 offence 00=3");
        right("hall 1 1 0;audit;", "1 1 0");
        wrong(before + "audit", 1, 53);
        wrong(before + "audit a;", 1, 54);
        wrong(before + "audit 1;", 1, 54);
    }

    private static void absolving() {
        String before = "hall 1 3 2;die 0 1;player a;throw a 0 3;audit;";
        DiceAudit x = Check.loaded(before + "absolve;");
        Check.is("absolve in a text", 0, x::offenceCount);
        Check.is("absolve in a text keeps the number of throws", 3, x::throwCount);
        Check.is("absolve in a text throws fairly", 1, x::fairShare);
        wrong(before + "absolve;absolve;", 6, 61);
        wrong(before + "absolve", 1, 53);
        wrong(before + "absolve a;", 1, 54);
        wrong(Check.HALL + "absolve;", 6, 18);
        wrong(Check.HALL + "absolve a", 1, 19);
        wrong(Check.HALL + "absolve", 1, 18);
    }

    private static void forgiving() {
        String before = "hall 1 3 2;die 0 1;player a;player b;throw a 0 3;throw b 0 3;audit;";
        DiceAudit x = Check.loaded(before + "forgive a;");
        Check.is("forgive in a text", 1, x::offenceCount);
        Check.is("forgive in a text leaves the others", 1, () -> x.offencePlayer(0));
        Check.is("forgive of nothing", 2, () -> Check.loaded(before + "player c;forgive c;").offenceCount());
        Check.is("audit after forgive", 2, () -> Check.loaded(before + "forgive a;audit;").offenceCount());
        wrong(before + "forgive c;", 4, 75);
        wrong(before + "forgive abcde;", 4, 75);
        wrong(before + "forgive 1;", 1, 75);
        wrong(before + "forgive;", 1, 74);
        wrong(before + "forgive a", 1, 76);
        wrong(before + "forgive a a;", 1, 77);
    }
}
