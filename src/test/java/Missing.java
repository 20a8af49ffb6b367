import java.util.ArrayList;
import java.util.List;
import java.util.function.ToIntFunction;

/** Calls with dice, players, faces, throws and offences that do not exist, and with those just before them. */
final class Missing {
    private static final int[] NUMBERS = {Integer.MIN_VALUE, -36, -6, -1, 0, 1, 2, 3, 6, 7, 12, 19, 36, 300, 301, Integer.MAX_VALUE};

    interface NumberCall {
        double answer(Audit hall, int number);
    }

    interface PairCall {
        double answer(Audit hall, int first, int second);
    }

    private Missing() {
    }

    static void die(NumberCall call) {
        numbers("die", Audit::dieCount, call);
    }

    static void player(NumberCall call) {
        numbers("player", Audit::playerCount, call);
    }

    static void throwIndex(NumberCall call) {
        numbers("throw", Audit::throwCount, call);
    }

    static void offence(NumberCall call) {
        numbers("offence", Audit::offenceCount, call);
    }

    private static List<Integer> outside(int count) {
        List<Integer> outside = new ArrayList<>(List.of(count, count + 1));
        for (int number : NUMBERS) {
            if (number < 0 || number > count + 1) {
                outside.add(number);
            }
        }
        return outside;
    }

    private static void numbers(String what, ToIntFunction<Audit> counter, NumberCall call) {
        for (Audit hall : Halls.all()) {
            int count = counter.applyAsInt(hall);
            for (int number : outside(count)) {
                Check.noIndex(what + " " + number + " of " + count, hall, () -> call.answer(hall, number));
            }
            if (count > 0) {
                exists(what + " 0 of " + count, () -> call.answer(hall, 0));
                exists(what + " " + (count - 1) + " of " + count, () -> call.answer(hall, count - 1));
            }
        }
    }

    /** The player is wrong, then the die, then both. */
    static void pair(PairCall call) {
        for (Audit hall : Halls.all()) {
            int players = hall.playerCount();
            int dice = hall.dieCount();
            for (int player : outside(players)) {
                for (int die : new int[] {0, dice - 1, dice}) {
                    Check.noIndex("player " + player + " of " + players + ", die " + die + " of " + dice, hall,
                        () -> call.answer(hall, player, die));
                }
            }
            for (int die : outside(dice)) {
                for (int player : new int[] {0, players - 1}) {
                    Check.noIndex("player " + player + " of " + players + ", die " + die + " of " + dice, hall,
                        () -> call.answer(hall, player, die));
                }
            }
            if (players > 0 && dice > 0) {
                exists("the first pair", () -> call.answer(hall, 0, 0));
                exists("the last pair", () -> call.answer(hall, players - 1, dice - 1));
            }
        }
    }

    /** There are a die of two faces, the smallest one, and one of twelve, the greatest, between two others. */
    static void face(PairCall call) {
        Audit hall = Halls.loaded(Halls.STRICT + "die 1 2;die 1 1 1 1 1 1 1 1 1 1 1 1;die 3 3 3;player a;");
        for (int die = 0; die < 3; die++) {
            int own = die;
            int faces = new int[] {2, 12, 3}[die];
            for (int face : new int[] {Integer.MIN_VALUE, -12, -1, 0, faces + 1, faces + 2, 13, 24, Integer.MAX_VALUE}) {
                Check.badArgument("face " + face + " of " + faces, hall, () -> call.answer(hall, own, face));
            }
            exists("face 1 of " + faces, () -> call.answer(hall, own, 1));
            exists("the last face of " + faces, () -> call.answer(hall, own, faces));
        }
    }

    /** The first state has all that such a call needs beside its number. */
    static void outOfRange(int least, int greatest, NumberCall call) {
        Audit hall = new Audit();
        for (int number : new int[] {Integer.MIN_VALUE, -1, least - 1, greatest + 1, greatest + 2, Integer.MAX_VALUE}) {
            if (number < least || number > greatest) {
                Check.badArgument("number " + number, hall, () -> call.answer(hall, number));
            }
        }
        exists("number " + least, () -> call.answer(hall, least));
        exists("number " + greatest, () -> call.answer(hall, greatest));
    }

    /** The call does not say that what it is given would not exist, though it may have another reason to refuse. */
    private static void exists(String what, Check.Call call) {
        Check.no(what + " is missing", () -> {
            try {
                call.answer();
                return false;
            } catch (IllegalStateException refused) {
                return false;
            } catch (RuntimeException thrown) {
                return true;
            }
        });
    }
}
