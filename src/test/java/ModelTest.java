import java.lang.reflect.InvocationTargetException;
import java.lang.reflect.Method;
import java.lang.reflect.Modifier;
import java.util.ArrayList;
import java.util.Comparator;
import java.util.List;

/** Long runs of calls on DiceAudit and on Model, of which every answer has to be the same. */
public final class ModelTest {
    private static final int RUNS = 250;
    /** The document promises nothing about later calls. */
    private static final int CALLS = 512;
    /** A text of 600 bytes is appended by 30 calls; six more load it and ask for its error. */
    private static final int CALLS_OF_LOAD = 40;
    private static final String[] NAMES = {"a", "ab", "b", "abcd", "abce", "die", "z", "hall", "abcde", "c", "d", "e"};
    private static final int[] EDGES = {-1, 0, 1, 2, 5, 6, 7, 12, 13, 50, 51, 99, 100, 200, 201, 300, 999, 1000,
        65536, 65537, Integer.MAX_VALUE, Integer.MIN_VALUE};
    private static final List<Method> QUESTIONS = new ArrayList<>();
    private static final List<Method> CHANGES = new ArrayList<>();

    private static long random = 1;

    public static void main(String[] args) throws ReflectiveOperationException {
        findMethods();
        long calls = 0;
        for (int run = 1; run <= RUNS; run++) {
            calls += compare(run);
        }
        System.out.println("ModelTest: " + RUNS + " runs, " + calls + " calls, 0 wrong");
    }

    /** A generator of the test's own, so that every run of the test makes the same calls. */
    private static int below(int bound) {
        random = random * 6364136223846793005L + 1442695040888963407L;
        return (int) Math.floorMod(random >>> 33, (long) bound);
    }

    private static void findMethods() {
        List<String> changing = List.of("throwDie", "audit", "absolve", "forgive", "setWeight", "setSeed", "setLimits",
            "writeRecords", "writeFaces", "save", "restore", "undo");
        for (Method method : DiceAudit.class.getDeclaredMethods()) {
            boolean input = List.of("load", "appendInput", "truncateInput").contains(method.getName());
            if (Modifier.isPublic(method.getModifiers()) && !input) {
                (changing.contains(method.getName()) ? CHANGES : QUESTIONS).add(method);
            }
        }
        // The order in which a class lists its methods is not promised.
        QUESTIONS.sort(Comparator.comparing(Method::getName));
        CHANGES.sort(Comparator.comparing(Method::getName));
    }

    private static int compare(int run) throws ReflectiveOperationException {
        random = run;
        DiceAudit real = new DiceAudit();
        Model model = new Model();
        StringBuilder log = new StringBuilder();
        int calls = 0;
        while (calls < CALLS) {
            int choice = below(40);
            if (choice == 0 && calls <= CALLS - CALLS_OF_LOAD) {
                calls += loadBoth(real, model, log, run);
            } else {
                Method method = choice < 16 ? pick(CHANGES) : pick(QUESTIONS);
                both(real, model, method, arguments(model, method), log, run);
                calls++;
            }
        }
        return calls;
    }

    private static Method pick(List<Method> methods) {
        return methods.get(below(methods.size()));
    }

    private static Object[] arguments(Model model, Method method) {
        Object[] arguments = new Object[method.getParameterCount()];
        for (int i = 0; i < arguments.length; i++) {
            arguments[i] = below(12) == 0 ? EDGES[below(EDGES.length)] : likely(model, method.getName(), arguments, i);
        }
        return arguments;
    }

    private static int likely(Model model, String method, Object[] arguments, int i) {
        switch (method) {
            case "faces", "isBalanced", "heaviestFace", "nextFace":
                return below(model.dieCount() + 1);
            case "playerAt", "dieAt", "faceAt", "isFairAt":
                return below(model.throwCount() + 1);
            case "setSeed":
                return below(65537);
            case "setLimits":
                return i == 0 ? 1 + below(12) : below(12);
            case "save", "restore":
                return below(2);
            case "outputByte":
                return below(40);
            case "offencePlayer", "offenceDie", "offenceScore":
                return below(model.offenceCount() + 1);
            case "faceAfter":
                return i == 0 ? below(model.dieCount() + 1) : 1 + below(200);
            case "weightOf", "throwsUntil":
                return i == 0 ? below(model.dieCount() + 1) : face(model, arguments[0]);
            case "setWeight":
                return i == 0 ? below(model.dieCount() + 1) : i == 1 ? face(model, arguments[0]) : below(3) * below(5);
            case "frequency":
                return i < 2 ? ofPair(model, i) : face(model, arguments[1]);
            case "scoreAfter", "throwDie":
                return i < 2 ? ofPair(model, i) : 1 + below(30);
            default:
                return ofPair(model, i);
        }
    }

    /** A player comes first, then a die. */
    private static int ofPair(Model model, int i) {
        return below(1 + (i == 0 ? model.playerCount() : model.dieCount()));
    }

    private static int face(Model model, Object die) {
        int number = (Integer) die;
        return 1 + below(1 + (number < 0 || number >= model.dieCount() ? 1 : model.faces(number)));
    }

    private static int loadBoth(DiceAudit real, Model model, StringBuilder log, int run) throws ReflectiveOperationException {
        String text = text();
        String room = text + " ".repeat(19 - (text.length() + 19) % 20);
        Method append = DiceAudit.class.getMethod("appendInput", int.class, int.class, int.class, int.class, int.class);
        for (int i = 0; i < room.length(); i += 20) {
            Object[] words = new Object[5];
            for (int word = 0; word < 5; word++) {
                int at = i + 4 * word;
                words[word] = room.charAt(at) << 24 | room.charAt(at + 1) << 16 | room.charAt(at + 2) << 8 | room.charAt(at + 3);
            }
            both(real, model, append, words, log, run);
        }
        both(real, model, DiceAudit.class.getMethod("truncateInput", int.class), new Object[] {text.length()}, log, run);
        log.append(text).append('\n');
        for (String method : new String[] {"findPlayer", "load", "errorCode", "errorPosition"}) {
            both(real, model, DiceAudit.class.getMethod(method), new Object[0], log, run);
        }
        return room.length() / 20 + 5;
    }

    private static String text() {
        if (below(12) == 0) {
            return NAMES[below(NAMES.length)];
        }
        StringBuilder text = new StringBuilder();
        text.append("hall ").append(below(65537)).append(' ').append(1 + below(9)).append(' ').append(below(7)).append(';');
        int dice = below(30) == 0 ? 7 : below(7);
        for (int die = 0; die < dice; die++) {
            text.append(die());
        }
        int players = below(30) == 0 ? 7 : 1 + below(6);
        for (int player = 0; player < players; player++) {
            text.append("player ").append(NAMES[below(60) == 0 ? below(NAMES.length) : player]).append(";\n");
        }
        for (int statements = below(24); statements > 0; statements--) {
            text.append(statement(players, dice));
        }
        if (text.length() > 600) {
            text.setLength(600);
        }
        return below(3) == 0 ? spoiled(text) : text.toString();
    }

    private static String die() {
        StringBuilder die = new StringBuilder("die");
        int faces = below(60) == 0 ? 1 + 12 * below(2) : 2 + below(below(3) == 0 ? 11 : 4);
        for (int face = 0; face < faces; face++) {
            die.append(' ').append(below(300) == 0 ? 10 : below(3) == 0 ? 0 : below(10));
        }
        return die.append(';').toString();
    }

    private static String statement(int players, int dice) {
        String name = NAMES[below(60) == 0 ? below(NAMES.length) : below(players)];
        int choice = below(20);
        if (choice < 12 && (dice > 0 || below(20) == 0)) {
            return "throw " + name + " " + below(Math.max(dice, 1)) + " " + (1 + below(below(20) == 0 ? 51 : 25)) + ";";
        }
        return choice < 17 ? "audit;" : choice == 17 ? "absolve;" : "forgive " + name + ";";
    }

    private static String spoiled(StringBuilder text) {
        String signs = "; \n0123456789adehiloprtvw,-A\0\u0080\u00ff";
        int at = below(text.length());
        int choice = below(3);
        if (choice == 0) {
            text.setLength(at);
        } else if (choice == 1) {
            text.deleteCharAt(at);
        } else {
            text.setCharAt(at, signs.charAt(below(signs.length())));
        }
        return text.toString();
    }

    private static void both(DiceAudit real, Model model, Method method, Object[] arguments, StringBuilder log, int run)
            throws ReflectiveOperationException {
        Method twin = Model.class.getMethod(method.getName(), method.getParameterTypes());
        String due = answer(model, twin, arguments);
        String got = answer(real, method, arguments);
        log.append(method.getName()).append(List.of(arguments)).append(" = ").append(due).append('\n');
        if (!got.equals(due)) {
            System.out.println(log);
            System.out.println("run " + run + ": answered " + got + ", due is " + due);
            System.exit(1);
        }
    }

    private static String answer(Object object, Method method, Object[] arguments) throws ReflectiveOperationException {
        try {
            return String.valueOf(method.invoke(object, arguments));
        } catch (InvocationTargetException thrown) {
            return thrown.getCause().getClass().getName();
        }
    }
}
