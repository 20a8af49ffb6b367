/** Section 5 of the terms: the input text and its errors. */
final class TextTerms {
    private static final String HALL = Halls.HALL;
    private static final String DIE = HALL + "die 0 1;";
    private static final String SIX_DICE = HALL + Halls.SIX_DICE;
    private static final String SIX_PLAYERS = HALL + Halls.SIX_PLAYERS;
    private static final String TWELVE = HALL + "die 1 2 3 4 5 6 7 8 9 0 1 2";
    private static final String FULL = DIE + "player a;" + "throw a 0 50;".repeat(6);
    /** Three throws with the same face of two: the score is 3. */
    private static final String SUSPECT = "hall 1 3 2;die 0 1;player a;player b;throw a 0 3;throw b 0 3;";

    private TextTerms() {
    }

    static void test() {
        Doc.terms(5);
        buffer();
        tokens();
        otherBytes();
        separators();
        names();
        hallStatement();
        dieAndPlayer();
        throwStatement();
        queueStatements();
        order();
        firstError();
        position();
        notAllowed();
        tooEarly();
        numbersOutOfRange();
        nameErrors();
        tooMany();
        semicolons();
    }

    private static void wrong(String text, int code, int position) {
        Audit x = new Audit();
        Halls.failLoad(x, text);
        Check.is(text + ", code", code, x::errorCode);
        Check.is(text + ", position", position, x::errorPosition);
        Check.same(text + ", state", Halls.FIRST, Halls.state(x));
    }

    /** The error is in the token that the text goes on with. */
    private static void wrong(String before, String token, int code) {
        wrong(before + token, code, before.length());
    }

    private static void right(String text, String state) {
        Audit x = new Audit();
        Check.is(text + " is loaded", 0, () -> 0 * Halls.load(x, text));
        Check.is(text + ", code", 0, x::errorCode);
        Check.is(text + ", position", -1, x::errorPosition);
        Check.same(text, state, Halls.state(x));
    }

    private static String filled(String text, int length) {
        return text + " ".repeat(length - text.length());
    }

    private static void buffer() {
        Doc.says("The input buffer holds at most 600 bytes.", () -> {
            right(filled(HALL, 600), "1 1 1");
            right(filled(HALL, 600 - 11) + "player abc;", "1 1 1 abc");
            Audit x = new Audit();
            Halls.put(x, filled("", 600));
            Check.badState("620 bytes", x, () -> x.appendInput(0, 0, 0, 0, 0));
            x.truncateInput(581);
            Check.badState("601 bytes", x, () -> x.appendInput(0, 0, 0, 0, 0));
        });
        Doc.says("The method load parses it as a sequence of statements.", () -> {
            right(HALL, "1 1 1");
            right(SIX_DICE + Halls.SIX_PLAYERS, "1 1 1 die 0 1 die 0 1 die 0 1 die 0 1 die 0 1 die 0 1 a b c d e f");
            right(HALL + "audit;".repeat(98), "1 1 1");
            wrong(HALL, "1;", 1);
            wrong(HALL, ";", 1);
        });
    }

    private static void tokens() {
        Doc.says("A word is a maximal run of the letters a to z.", () -> {
            right(HALL + "player az;player za;", "1 1 1 az za");
            wrong(HALL, "playera;", 1);
            wrong(HALL, "play er a;", 1);
            for (char sign = 0; sign < 256; sign++) {
                String text = HALL + "player ab" + sign + ";";
                if (sign >= 'a' && sign <= 'z') {
                    right(text, "1 1 1 ab" + sign);
                } else if (sign == ' ' || sign == '\n') {
                    right(text, "1 1 1 ab");
                } else if (sign == ';') {
                    wrong(HALL + "player ab;", ";", 1);
                } else {
                    wrong(HALL + "player ab", sign + ";", 1);
                }
            }
        });
        Doc.says("A number is a maximal run of decimal digits of any length", () -> {
            for (char sign = 0; sign < 256; sign++) {
                String text = "hall 1 1 1" + sign + ";";
                if (sign >= '0' && sign <= '9') {
                    right(text, "1 1 1" + sign);
                } else if (sign == ' ' || sign == '\n') {
                    right(text, "1 1 1");
                } else if (sign == ';') {
                    wrong("hall 1 1 1;", ";", 1);
                } else {
                    wrong("hall 1 1 1", sign + ";", 1);
                }
            }
            for (String number : new String[] {"4294967296", "4294967297", "18446744073709551616", "2147483648", "2147483649", "1000000",
                "1000001", "9".repeat(500), "1" + "0".repeat(500), "65537", "100000"}) {
                wrong("hall ", number + " 1 1;", 2);
            }
        });
        Doc.says("leading zeros have no effect.", () -> {
            right("hall 00000000000000000000065536 0099 000;", "65536 99 0");
            right("hall " + "0".repeat(560) + "7 01 00;", "7 1 0");
            right(HALL + "die 0000 0009;", "1 1 1 die 0 9");
            right(DIE + "player a;throw a 000 02;", "11249 1 1 die 0 1 a 00:2 00:2");
            wrong("hall ", "065537 1 1;", 2);
            wrong(DIE + "player a;throw a 0 ", "00;", 2);
        });
    }

    /** A byte that is no letter, no digit, no space, no line feed and no semicolon is wrong wherever it stands. */
    private static void otherBytes() {
        Doc.says("Every other byte, except the space (32) and the line feed (10), is a token of its own.", () -> {
            for (char sign = 0; sign < 256; sign++) {
                boolean other = !(sign >= 'a' && sign <= 'z') && !(sign >= '0' && sign <= '9') && " \n;".indexOf(sign) < 0;
                if (other) {
                    wrong("", sign + HALL, 1);
                    wrong("hall 1 1 1", sign + ";", 1);
                    wrong(HALL, sign + "die 1 1;", 1);
                    wrong(DIE + "player a", sign + "" + sign + ";", 1);
                    wrong(DIE + "player a;throw a 0 1;", String.valueOf(sign), 1);
                }
            }
            wrong(HALL + "player a;", ";", 1);
            wrong(HALL, ";;", 1);
        });
    }

    private static void separators() {
        Doc.says("Spaces and line feeds only separate tokens.", () -> {
            right("  hall\n1 \n 1 1 ; ", "1 1 1");
            right("\n\n" + HALL + "\n \n", "1 1 1");
            right("hall1 1 1;die1 1;player a;throw a0 1;", "149 1 1 die 1 1 a 00:2");
            right("hall 1 1 1 ; die 0 1 ; player a ; throw a 0 1 ; audit ; forgive a ; ", "149 1 1 die 0 1 a 00:2");
            right("hall\n1\n1\n1\n;player\na\n;", "1 1 1 a");
            wrong("", "ha ll 1 1 1;", 1);
            wrong("hall 1 1 1 ", "0;", 1);
            wrong("hall 1 1 1\n", "0;", 1);
            wrong(HALL + "player a ", "b;", 1);
            wrong(HALL + "player a\n", "b;", 1);
        });
    }

    private static void names() {
        Doc.says("Any word of 1 to 4 letters can be a name.", () -> {
            right(HALL + "player die;player hall;player a;player aa;player zzzz;player aud;", "1 1 1 die hall a aa zzzz aud");
            right("hall 1 1 0;die 0 1;player die;player hall;throw die 0 1;throw hall 0 1;audit;forgive hall;",
                "11249 1 0 die 0 1 die hall 00:2 10:2 offence 00=1");
            wrong(HALL + "player ", "audit;", 2);
        });
    }

    private static void hallStatement() {
        Doc.says("hall SEED MINIMUM THRESHOLD", () -> {
            right("hall 12 34 56;", "12 34 56");
            wrong("hall 1 1", ";", 1);
            wrong("hall 1 1 1 ", "1;", 1);
            wrong("hall", ";", 1);
        });
        Doc.says("the seed, the minimum and the threshold", () -> {
            right("hall 65536 99 999;", "65536 99 999");
            right("hall 0 1 0;", "0 1 0");
        });
        Doc.says("this is the first statement, and it occurs only there", () -> {
            wrong("", "die 1 1;", 1);
            wrong("", "player a;" + HALL, 1);
            wrong("", "audit;", 1);
            wrong("", "absolve;", 1);
            wrong("", "forgive a;", 1);
            wrong("", "throw a 0 1;", 1);
            wrong("", ";" + HALL, 1);
            wrong(HALL, HALL, 1);
            wrong(DIE + "player a;", HALL, 1);
            wrong(HALL, "hall", 1);
        });
    }

    private static void dieAndPlayer() {
        Doc.says("die WEIGHT WEIGHT ...", () -> {
            right(HALL + "die 3 4;die 5 6 7;", "1 1 1 die 3 4 die 5 6 7");
            wrong(HALL + "die 1 1 ", "a;", 1);
            wrong(HALL + "die ", "a 1;", 1);
        });
        Doc.says("adds a die with two or more faces", () -> {
            right(HALL + "die 0 9;", "1 1 1 die 0 9");
            right(TWELVE + ";", "1 1 1 die 1 2 3 4 5 6 7 8 9 0 1 2");
            wrong(HALL + "die", ";", 1);
            wrong(HALL + "die 1", ";", 1);
        });
        Doc.says("player NAME", () -> {
            right(HALL + "player abcd;", "1 1 1 abcd");
            wrong(HALL + "player", ";", 1);
            wrong(HALL + "player ", "1;", 1);
            wrong(HALL + "player a ", "a;", 1);
        });
        Doc.says("adds a player", () -> right(HALL + "player b;player a;", "1 1 1 b a"));
    }

    private static void throwStatement() {
        Doc.says("throw NAME DIE TIMES", () -> {
            right(HALL + "die 1 0;die 0 1;player a;player b;throw b 1 1;throw a 0 2;",
                "57305 1 1 die 1 0 die 0 1 a b 11:2 00:1 00:1");
            String before = DIE + "player a;throw";
            wrong(before, ";", 1);
            wrong(before + " a", ";", 1);
            wrong(before + " a 0", ";", 1);
            wrong(before + " a 0 1 ", "1;", 1);
            wrong(before + " ", "0 a 1;", 1);
        });
        Doc.says("the player throws the die, 1 to 50 times", () -> {
            right(DIE + "player a;throw a 0 1;", "149 1 1 die 0 1 a 00:2");
            Check.is("fifty times", 50, () -> Halls.loaded(DIE + "player a;throw a 0 50;").throwCount());
            wrong(DIE + "player a;throw a 0 ", "0;", 2);
            wrong(DIE + "player a;throw a 0 ", "51;", 2);
        });
    }

    private static void queueStatements() {
        Doc.says("audit", () -> {
            wrong(SUSPECT + "audit ", "a;", 1);
            wrong(SUSPECT + "audit ", "1;", 1);
            Check.is("two offences", 2, () -> Halls.loaded(SUSPECT + "audit;").offenceCount());
        });
        Doc.says("an audit", () -> {
            right(SUSPECT + "audit;", Halls.state(Halls.loaded(SUSPECT)) + " offence 00=3 offence 10=3");
            right(SUSPECT + "audit;audit;", Halls.state(Halls.loaded(SUSPECT)) + " offence 00=3 offence 10=3");
            right("hall 1 1 0;audit;", "1 1 0");
        });
        Doc.says("absolve", () -> {
            wrong(SUSPECT + "audit;absolve ", "a;", 1);
            Check.is("one offence is left", 1, () -> Halls.loaded(SUSPECT + "audit;absolve;").offenceCount());
        });
        Doc.says("a penance", () -> {
            Audit due = Halls.loaded(SUSPECT + "audit;");
            due.absolve();
            right(SUSPECT + "audit;absolve;", Halls.state(due));
            due.absolve();
            right(SUSPECT + "audit;absolve;absolve;", Halls.state(due));
        });
        Doc.says("forgive NAME", () -> {
            wrong(SUSPECT + "forgive", ";", 1);
            wrong(SUSPECT + "forgive ", "1;", 1);
            wrong(SUSPECT + "forgive a ", "b;", 1);
        });
        Doc.says("removes all offences of the player from the queue", () -> {
            String state = Halls.state(Halls.loaded(SUSPECT));
            right(SUSPECT + "audit;forgive a;", state + " offence 10=3");
            right(SUSPECT + "audit;forgive a;forgive b;", state);
            right(SUSPECT + "audit;forgive a;forgive a;", state + " offence 10=3");
            right(SUSPECT + "forgive b;", state);
            right("hall 1 1 0;die 0 1;die 0 1;player a;player b;throw a 0 1;throw a 1 1;throw b 0 1;audit;forgive a;",
                "57305 1 0 die 0 1 die 0 1 a b 00:2 01:2 10:2 offence 10=1");
        });
    }

    private static void order() {
        Doc.says("The statements are executed in the order of the text.", () -> {
            wrong(DIE + "throw ", "a 0 1;player a;", 4);
            wrong(HALL + "player a;throw a ", "0 1;die 0 1;", 2);
            wrong(HALL + "forgive ", "a;player a;", 4);
            Check.is("an audit before the throws", 0, () -> Halls.loaded("hall 1 1 0;die 0 1;player a;audit;throw a 0 1;").offenceCount());
            Check.is("an audit after forgive", 2, () -> Halls.loaded(SUSPECT + "audit;forgive a;audit;").offenceCount());
            Check.is("a die between the throws", 2,
                () -> Halls.loaded(DIE + "player a;throw a 0 1;die 1 0;throw a 1 1;").dieCount());
            wrong(SUSPECT + "absolve", ";audit;", 6);
        });
    }

    private static void firstError() {
        Doc.says("The parser reads the tokens from left to right and stops at the first token that has an error.", () -> {
            wrong("hall ", "70000 0 1000;", 2);
            wrong("hall 1 ", "0 x", 2);
            wrong(HALL + "player a;player ", "a x", 3);
            wrong(SIX_DICE, "die ?", 5);
            wrong(FULL + "throw a 0 1", ";?", 6);
            wrong(FULL + "throw a 0 ", "51;", 2);
            wrong(FULL + "throw ", "b 0 1;", 4);
            wrong(HALL + "die 0 0", ";hall", 6);
        });
        Doc.says("If that token has several errors, the smallest error code applies.", () -> {
            wrong(TWELVE + " ", "10;", 2);
            wrong(TWELVE + " ", "99999999999999999999;", 2);
            wrong(TWELVE + " ", "die", 1);
            wrong(HALL + "die 0", ";", 1);
            wrong(HALL + "die", ";", 1);
            wrong(FULL + "throw a 0", ";", 1);
            wrong(FULL + "throw", ";", 1);
            wrong("", "player a;", 1);
            wrong(SIX_PLAYERS + "audit ", "player g;", 1);
            wrong(SIX_DICE + "audit ", "die 1 1;", 1);
            wrong(HALL + "absolve ", "die", 1);
        });
    }

    private static void position() {
        Doc.says("The error position is the offset of the first byte of the token", () -> {
            wrong("", "halls 1 1 1;", 1);
            wrong("\n  \n", "x", 1);
            wrong("hall 1 1 ", "1000;", 2);
            wrong("hall ", "00065537 1 1;", 2);
            wrong(HALL + "  \n player \n ", "abcde;", 2);
            wrong(HALL + "player ab;player ", "ab;", 3);
            wrong(filled(HALL, 599), "?", 1);
            wrong(filled(HALL, 599), "x", 1);
        });
        Doc.says("it is the length of the text if the text ends too early.", () -> {
            wrong("", "", 1);
            wrong("  \n", "", 1);
            wrong("hall", "", 1);
            wrong("hall 1 1 1", "", 1);
            wrong("hall 1 1 1 \n ", "", 1);
            wrong(filled("", 600), "", 1);
            wrong(filled("hall 1 1 1", 600), "", 1);
            wrong(filled(HALL, 594) + "player", "", 1);
        });
    }

    private static void notAllowed() {
        Doc.says("1 the token is not allowed here, or the text ends too early (also an empty text)", () -> {
            for (String token : new String[] {"hal 1 1 1;", "halls 1 1 1;", "Hall 1 1 1;", "xall 1 1 1;", "halm 1 1 1;", "1;", ";"}) {
                wrong("", token, 1);
            }
            for (String token : new String[] {"dies 1 1;", "di 1 1;", "Die 1 1;", "tie 1 1;", "did 1 1;", "players a;", "playe a;", "throws a 0 1;",
                "thro a 0 1;", "audits;", "audi;", "absolves;", "absolv;", "forgives a;", "forgiv a;", "x", "7", ";", "-", "a;"}) {
                wrong(HALL, token, 1);
            }
            wrong("hall ", "-1 1 1;", 1);
            wrong("hall ", "one 1 1;", 1);
            wrong("hall 1 1 1 ", "player a;", 1);
            wrong(HALL + "die 1 1", ", 1;", 1);
            wrong(DIE + "player a;throw a ", "a 1;", 1);
            wrong(DIE + "player a;throw a ", "-1 1;", 1);
            wrong(DIE + "player a;throw a 0 ", "a;", 1);
            wrong(HALL + "player ", "A;", 1);
            wrong("", "", 1);
            wrong(" ", "", 1);
        });
    }

    /** Every text that is cut off after any of its tokens ends too early, but for the end of a statement. */
    private static void tooEarly() {
        Doc.says("1 the token is not allowed here, or the text ends too early (also an empty text)", () -> {
            String text = "hall 1 3 2;die 0 1;player a;throw a 0 3;audit;forgive a;audit;absolve;";
            for (int length = 0; length < text.length(); length++) {
                boolean within = isLetterOrDigit(text.charAt(length)) && length > 0 && isLetterOrDigit(text.charAt(length - 1));
                boolean atEnd = length > 0 && text.charAt(length - 1) == ';';
                if (!within && !atEnd) {
                    wrong(text.substring(0, length), "", 1);
                }
            }
            Check.is("the whole text", 3, () -> Halls.loaded(text).throwCount());
        });
    }

    private static boolean isLetterOrDigit(char sign) {
        return sign >= 'a' && sign <= 'z' || sign >= '0' && sign <= '9';
    }

    private static void numbersOutOfRange() {
        Doc.says("2 a number is out of range (also a DIE that does not exist)", () -> {
            wrong("hall ", "65537 1 0;", 2);
            wrong("hall 0 ", "0 0;", 2);
            wrong("hall 0 ", "100 0;", 2);
            wrong("hall 0 1 ", "1000;", 2);
            wrong(HALL + "die ", "10 1;", 2);
            wrong(HALL + "die 1 ", "10;", 2);
            wrong(HALL + "die 1 1 ", "10;", 2);
            wrong(HALL + "die 1 1 1 1 1 1 1 1 1 1 1 ", "10;", 2);
            wrong(DIE + "player a;throw a ", "1 1;", 2);
            wrong(HALL + "player a;throw a ", "0 1;", 2);
            wrong(SIX_DICE + "player a;throw a ", "6 1;", 2);
            wrong(SIX_DICE + "player a;throw a ", "4294967296 1;", 2);
            wrong(DIE + "player a;throw a 0 ", "0;", 2);
            wrong(DIE + "player a;throw a 0 ", "51;", 2);
            right(SIX_DICE + "player a;throw a 5 1;", "149 1 1 die 0 1 die 0 1 die 0 1 die 0 1 die 0 1 die 0 1 a 05:2");
        });
        Doc.says("2 a number is out of range (also a DIE that does not exist)", () -> {
            // One more than 16, 32, 64 and 128 bits hold: with a wrap-around each of them would be 1, or 0.
            for (String number : new String[] {"65537", "4294967297", "18446744073709551617", "340282366920938463463374607431768211457",
                "4294967296", "18446744073709551616", "2147483648", "9223372036854775808"}) {
                wrong("hall ", number + " 1 1;", 2);
                wrong("hall 1 ", number + " 1;", 2);
                wrong("hall 1 1 ", number + ";", 2);
                wrong(HALL + "die ", number + " 1;", 2);
                wrong(HALL + "die 1 ", number + ";", 2);
                wrong(TWELVE + " ", number + ";", 2);
                wrong(SIX_DICE + "player a;throw a ", number + " 1;", 2);
                wrong(DIE + "player a;throw a 0 ", number + ";", 2);
            }
        });
        Doc.says("a new name of more than 4 letters", () -> {
            wrong(HALL + "player ", "abcde;", 2);
            wrong(HALL + "player ", "player;", 2);
            wrong(HALL + "player ", "a".repeat(500) + ";", 2);
            wrong(HALL + "player abcd;player ", "abcde;", 2);
            right(HALL + "player abcd;", "1 1 1 abcd");
        });
    }

    private static void nameErrors() {
        Doc.says("3 a new name that a player has already", () -> {
            wrong(HALL + "player ab;player ", "ab;", 3);
            wrong(HALL + "player ab;player cd;player ", "ab", 3);
            wrong(HALL + "player a;player b;player c;player d;player e;player ", "e;", 3);
            wrong(HALL + "player abcd;player ", "abcd;", 3);
        });
        Doc.says("4 a name after throw or forgive that no player has", () -> {
            String before = DIE + "player ab;player b;";
            for (String name : new String[] {"c", "a", "abc", "ba", "bb", "abcde", "throw", "hall"}) {
                wrong(before + "throw ", name + " 0 1;", 4);
                wrong(before + "forgive ", name + ";", 4);
            }
            wrong(HALL + "throw ", "a 0 1;", 4);
            wrong(HALL + "forgive ", "a;", 4);
            wrong(HALL + "throw ", "ann 0 1;", 4);
        });
    }

    private static void tooMany() {
        Doc.says("5 the word die when there are 6 dice, player when there are 6 players", () -> {
            right(SIX_DICE, "1 1 1 die 0 1 die 0 1 die 0 1 die 0 1 die 0 1 die 0 1");
            wrong(SIX_DICE, "die 1 1;", 5);
            wrong(SIX_DICE, "die", 5);
            wrong(SIX_DICE, "dice", 1);
            right(SIX_PLAYERS, "1 1 1 a b c d e f");
            wrong(SIX_PLAYERS, "player g;", 5);
            wrong(SIX_PLAYERS, "player a;", 5);
            wrong(SIX_PLAYERS, "player", 5);
            wrong(SIX_PLAYERS, "players", 1);
        });
        Doc.says("a 13th WEIGHT", () -> {
            right(TWELVE + ";", "1 1 1 die 1 2 3 4 5 6 7 8 9 0 1 2");
            wrong(TWELVE + " ", "0;", 5);
            wrong(TWELVE + " ", "1;", 5);
            wrong(TWELVE + " ", "9", 5);
            wrong(TWELVE + " ", "0009 1;", 5);
            wrong(HALL + "die 0 0 0 0 0 0 0 0 0 0 0 0 ", "0;", 5);
        });
    }

    private static void semicolons() {
        Doc.says("6 the semicolon of a die whose weights are all 0", () -> {
            wrong(HALL + "die 0 0", ";", 6);
            wrong(HALL + "die 0 0 0 0 0 0 0 0 0 0 0 0", ";", 6);
            wrong(HALL + "die 00 000 ", ";", 6);
            right(HALL + "die 0 0 1;", "1 1 1 die 0 0 1");
            right(HALL + "die 1 0 0;", "1 1 1 die 1 0 0");
        });
        Doc.says("the semicolon of a throw statement if the record would have more than 300 throws", () -> {
            String nearly = DIE + "player a;" + "throw a 0 50;".repeat(5) + "throw a 0 49;";
            Check.is("300 throws", 300, () -> Halls.loaded(nearly + "throw a 0 1;").throwCount());
            wrong(nearly + "throw a 0 2", ";", 6);
            wrong(nearly + "throw a 0 50", ";", 6);
            wrong(FULL + "throw a 0 1", ";", 6);
            wrong(FULL + "throw a 0 50 ", ";", 6);
            wrong(FULL + "throw a 0 1", "", 1);
            Check.is("an audit and a penance in a full record", 300, () -> Halls.loaded(FULL + "audit;absolve;").throwCount());
        });
        Doc.says("the semicolon of an absolve statement if the queue is empty", () -> {
            wrong(HALL + "absolve", ";", 6);
            wrong(SUSPECT + "absolve", ";", 6);
            wrong(SUSPECT + "audit;absolve;absolve;absolve", ";", 6);
            wrong(SUSPECT + "audit;forgive a;forgive b;absolve\n", ";", 6);
            wrong(HALL + "absolve", "", 1);
            wrong(HALL + "absolve ", "a;", 1);
        });
    }
}
