import java.math.BigInteger;
import java.util.ArrayDeque;
import java.util.ArrayList;
import java.util.Comparator;
import java.util.Deque;
import java.util.List;
import java.util.NoSuchElementException;
import java.util.TreeMap;
import java.util.TreeSet;
import java.util.regex.Matcher;
import java.util.regex.Pattern;

/** The document once more, as plainly as the whole Java library allows; what ModelTest compares with. */
public final class Model {
    record Throw(int player, int die, int face, boolean fair) { }

    record Offence(int player, int die, int score) { }

    static final Comparator<Offence> ORDER = Comparator.comparingInt((Offence o) -> -o.score)
        .thenComparingInt(Offence::player).thenComparingInt(Offence::die);

    static final class State {
        int seed;
        int minimum;
        int threshold;
        List<List<Integer>> dice = new ArrayList<>();
        List<String> names = new ArrayList<>();
        List<Throw> record = new ArrayList<>();
        TreeSet<Offence> queue = new TreeSet<>(ORDER);

        State copy() {
            State copy = new State();
            copy.seed = seed;
            copy.minimum = minimum;
            copy.threshold = threshold;
            dice.forEach(die -> copy.dice.add(new ArrayList<>(die)));
            copy.names.addAll(names);
            copy.record.addAll(record);
            copy.queue.addAll(queue);
            return copy;
        }

        int roll(int die, boolean fair) {
            seed = (int) ((75L * seed + 74) % 65537);
            List<Integer> shown = new ArrayList<>();
            for (int face = 1; face <= dice.get(die).size(); face++) {
                for (int i = 0; i < (fair ? 1 : dice.get(die).get(face - 1)); i++) {
                    shown.add(face);
                }
            }
            return shown.get(seed % shown.size());
        }

        int throwing(int player, int die, int count, boolean fair) {
            int sum = 0;
            for (int i = 0; i < count; i++) {
                int face = roll(die, fair);
                record.add(new Throw(player, die, face, fair));
                sum += face;
            }
            return sum;
        }

        List<Throw> pair(int player, int die) {
            return record.stream().filter(t -> t.player == player && t.die == die).toList();
        }

        int count(int player, int die, int face) {
            return (int) pair(player, die).stream().filter(t -> t.face == face).count();
        }

        int score(int player, int die) {
            long n = pair(player, die).size();
            long s = dice.get(die).size();
            long sum = 0;
            for (int face = 1; face <= s; face++) {
                long difference = s * count(player, die, face) - n;
                sum += difference * difference;
            }
            return n == 0 ? 0 : (int) Math.floorDiv(sum, n * s);
        }

        boolean suspicious(int player, int die) {
            return pair(player, die).size() >= minimum && score(player, die) > threshold;
        }

        int auditing() {
            int added = 0;
            for (int player = 0; player < names.size(); player++) {
                for (int die = 0; die < dice.size(); die++) {
                    int p = player;
                    int d = die;
                    if (suspicious(p, d) && queue.stream().noneMatch(o -> o.player == p && o.die == d)) {
                        queue.add(new Offence(p, d, score(p, d)));
                        added++;
                    }
                }
            }
            return added;
        }

        int absolving() {
            Offence first = queue.pollFirst();
            List<Throw> own = pair(first.player, first.die);
            int k = Math.min(first.score, own.size());
            for (int i = 0; i < k; i++) {
                for (int index = record.size() - 1; ; index--) {
                    Throw last = record.get(index);
                    if (last.player == first.player && last.die == first.die) {
                        record.remove(index);
                        break;
                    }
                }
            }
            return throwing(first.player, first.die, k, true);
        }

        int forgiving(int player) {
            int before = queue.size();
            queue.removeIf(o -> o.player == player);
            return before - queue.size();
        }
    }

    private State state = new State();
    private StringBuilder input = new StringBuilder();
    private String output = "";
    private int code = 0;
    private int position = -1;
    private final State[] slots = new State[2];
    private final Deque<State> remembered = new ArrayDeque<>();

    public Model() {
        input.append("hall 1 6 3;die 1 1 1 1 1 1;die 0 1 1 4;player ann;player bob;player cid;"
            + "throw ann 0 6;throw bob 1 8;throw ann 1 3;audit;throw cid 0 2;");
        load();
        remembered.clear();
    }

    private void remember() {
        remembered.addLast(state.copy());
        if (remembered.size() > 8) {
            remembered.removeFirst();
        }
    }

    private static void index(int value, int size) {
        if (value < 0 || value >= size) {
            throw new IndexOutOfBoundsException();
        }
    }

    private static void range(int value, int low, int high) {
        if (value < low || value > high) {
            throw new IllegalArgumentException();
        }
    }

    private void die(int die) {
        index(die, state.dice.size());
    }

    private void player(int player) {
        index(player, state.names.size());
    }

    private void pair(int player, int die) {
        player(player);
        die(die);
    }

    private void face(int die, int face) {
        range(face, 1, state.dice.get(die).size());
    }

    private Offence offence(int rank) {
        index(rank, state.queue.size());
        return new ArrayList<>(state.queue).get(rank);
    }

    private Throw thrown(int index) {
        index(index, state.record.size());
        return state.record.get(index);
    }

    private List<Throw> own(int player) {
        return state.record.stream().filter(t -> t.player == player).toList();
    }

    public int appendInput(int a, int b, int c, int d, int e) {
        if (input.length() + 20 > 600) {
            throw new IllegalStateException();
        }
        for (int word : new int[] {a, b, c, d, e}) {
            for (int i = 3; i >= 0; i--) {
                input.append((char) (word >>> 8 * i & 255));
            }
        }
        return input.length();
    }

    public int truncateInput(int length) {
        range(length, 0, input.length());
        input.setLength(length);
        return length;
    }

    private static final class TextError extends RuntimeException {
        private static final long serialVersionUID = 1;
        final int code;
        final int position;

        TextError(int code, int position) {
            this.code = code;
            this.position = position;
        }
    }

    record Token(String text, int position) {
        boolean isWord() {
            return text.matches("[a-z]+");
        }

        boolean isNumber() {
            return text.matches("[0-9]+");
        }
    }

    private static final class Reader {
        final List<Token> tokens = new ArrayList<>();
        final State s = new State();
        int next = 0;

        Reader(String text) {
            Matcher matcher = Pattern.compile("[a-z]+|[0-9]+|[^ \n]", Pattern.DOTALL).matcher(text);
            while (matcher.find()) {
                tokens.add(new Token(matcher.group(), matcher.start()));
            }
            tokens.add(new Token("", text.length()));
        }

        Token peek() {
            return tokens.get(next);
        }

        void when(boolean error, int code) {
            if (error) {
                throw new TextError(code, peek().position);
            }
        }

        Token take() {
            return tokens.get(next++);
        }

        void take(String token) {
            when(!peek().text.equals(token), 1);
            next++;
        }

        int number(int low, int high) {
            when(!peek().isNumber(), 1);
            BigInteger value = new BigInteger(peek().text);
            when(value.compareTo(BigInteger.valueOf(low)) < 0 || value.compareTo(BigInteger.valueOf(high)) > 0, 2);
            next++;
            return value.intValue();
        }

        int name() {
            when(!peek().isWord(), 1);
            when(!s.names.contains(peek().text), 4);
            return s.names.indexOf(take().text);
        }

        State read() {
            take("hall");
            s.seed = number(0, 65536);
            s.minimum = number(1, 99);
            s.threshold = number(0, 999);
            take(";");
            while (!peek().text.isEmpty()) {
                statement();
            }
            return s;
        }

        void statement() {
            switch (peek().text) {
                case "die" -> die();
                case "player" -> player();
                case "throw" -> throwing();
                case "audit" -> {
                    next++;
                    take(";");
                    s.auditing();
                }
                case "absolve" -> {
                    next++;
                    when(!peek().text.equals(";"), 1);
                    when(s.queue.isEmpty(), 6);
                    next++;
                    s.absolving();
                }
                case "forgive" -> {
                    next++;
                    int player = name();
                    take(";");
                    s.forgiving(player);
                }
                default -> when(true, 1);
            }
        }

        void die() {
            when(s.dice.size() == 6, 5);
            next++;
            List<Integer> weights = new ArrayList<>();
            while (weights.size() < 2 || !peek().text.equals(";")) {
                int weight = number(0, 9);
                next--;
                when(weights.size() == 12, 5);
                next++;
                weights.add(weight);
            }
            when(weights.stream().allMatch(weight -> weight == 0), 6);
            next++;
            s.dice.add(weights);
        }

        void player() {
            when(s.names.size() == 6, 5);
            next++;
            when(!peek().isWord(), 1);
            when(peek().text.length() > 4, 2);
            when(s.names.contains(peek().text), 3);
            String name = take().text;
            take(";");
            s.names.add(name);
        }

        void throwing() {
            next++;
            int player = name();
            int die = number(0, s.dice.size() - 1);
            int times = number(1, 50);
            when(!peek().text.equals(";"), 1);
            when(s.record.size() + times > 300, 6);
            next++;
            s.throwing(player, die, times, false);
        }
    }

    public int load() {
        String text = input.toString();
        input.setLength(0);
        try {
            State read = new Reader(text).read();
            code = 0;
            position = -1;
            remember();
            state = read;
            return state.record.size();
        } catch (TextError error) {
            code = error.code;
            position = error.position;
            throw new IllegalArgumentException();
        }
    }

    public int errorCode() {
        return code;
    }

    public int errorPosition() {
        return position;
    }

    public int seed() {
        return state.seed;
    }

    public int minimum() {
        return state.minimum;
    }

    public int threshold() {
        return state.threshold;
    }

    public int dieCount() {
        return state.dice.size();
    }

    public int playerCount() {
        return state.names.size();
    }

    public int throwCount() {
        return state.record.size();
    }

    public int faces(int die) {
        die(die);
        return state.dice.get(die).size();
    }

    public int weightOf(int die, int face) {
        die(die);
        face(die, face);
        return state.dice.get(die).get(face - 1);
    }

    public boolean isBalanced(int die) {
        die(die);
        return state.dice.get(die).stream().distinct().count() == 1;
    }

    public int heaviestFace(int die) {
        die(die);
        List<Integer> weights = state.dice.get(die);
        return weights.indexOf(weights.stream().max(Comparator.naturalOrder()).get()) + 1;
    }

    public int nameByte(int player, int position) {
        player(player);
        String name = state.names.get(player);
        if (position < 0 || position >= name.length()) {
            throw new NoSuchElementException();
        }
        return name.charAt(position);
    }

    public int playerAt(int index) {
        return thrown(index).player;
    }

    public int dieAt(int index) {
        return thrown(index).die;
    }

    public int faceAt(int index) {
        return thrown(index).face;
    }

    public boolean isFairAt(int index) {
        return thrown(index).fair;
    }

    public int throwsOf(int player) {
        player(player);
        return own(player).size();
    }

    public int total(int player) {
        player(player);
        return own(player).stream().mapToInt(Throw::face).sum();
    }

    public double meanFace(int player) {
        player(player);
        return own(player).stream().mapToInt(Throw::face).average().orElse(0.0);
    }

    private List<Integer> ranking() {
        List<Integer> players = new ArrayList<>();
        for (int player = 0; player < state.names.size(); player++) {
            players.add(player);
        }
        players.sort(Comparator.comparingInt((Integer p) -> -total(p)).thenComparing(p -> state.names.get(p)));
        return players;
    }

    public int rankOf(int player) {
        player(player);
        return ranking().indexOf(player);
    }

    public int playerWithRank(int rank) {
        if (rank < 0 || rank >= state.names.size()) {
            throw new NoSuchElementException();
        }
        return ranking().get(rank);
    }

    public int longestRun(int player) {
        player(player);
        List<Throw> own = own(player);
        int longest = 0;
        for (int from = 0; from < own.size(); from++) {
            int to = from;
            while (to < own.size() && own.get(to).face == own.get(from).face) {
                to++;
            }
            longest = Math.max(longest, to - from);
        }
        return longest;
    }

    public int findPlayer() {
        return state.names.indexOf(input.toString());
    }

    public int throwsOfPair(int player, int die) {
        pair(player, die);
        return state.pair(player, die).size();
    }

    public int frequency(int player, int die, int face) {
        pair(player, die);
        face(die, face);
        return state.count(player, die, face);
    }

    public int commonFace(int player, int die) {
        pair(player, die);
        int best = -1;
        for (int face = 1; face <= state.dice.get(die).size(); face++) {
            int count = state.count(player, die, face);
            if (count > (best == -1 ? 0 : state.count(player, die, best))) {
                best = face;
            }
        }
        return best;
    }

    public int facesSeen(int player, int die) {
        pair(player, die);
        return (int) state.pair(player, die).stream().map(Throw::face).distinct().count();
    }

    public int latestThrow(int player, int die) {
        pair(player, die);
        int latest = -1;
        for (int index = 0; index < state.record.size(); index++) {
            if (state.record.get(index).player == player && state.record.get(index).die == die) {
                latest = index;
            }
        }
        return latest;
    }

    public int score(int player, int die) {
        pair(player, die);
        return state.score(player, die);
    }

    public boolean isSuspicious(int player, int die) {
        pair(player, die);
        return state.suspicious(player, die);
    }

    public int suspiciousPairs() {
        State copy = state.copy();
        copy.queue.clear();
        return copy.auditing();
    }

    public int worstPair() {
        int worst = -1;
        for (int player = 0; player < state.names.size() && !state.record.isEmpty(); player++) {
            for (int die = 0; die < state.dice.size(); die++) {
                if (worst == -1 || state.score(player, die) > state.score(worst / 10, worst % 10)) {
                    worst = 10 * player + die;
                }
            }
        }
        return worst;
    }

    public int offenceCount() {
        return state.queue.size();
    }

    public int offencePlayer(int rank) {
        return offence(rank).player;
    }

    public int offenceDie(int rank) {
        return offence(rank).die;
    }

    public int offenceScore(int rank) {
        return offence(rank).score;
    }

    public int offencesOf(int player) {
        player(player);
        return (int) state.queue.stream().filter(o -> o.player == player).count();
    }

    public int nextFace(int die) {
        die(die);
        return state.copy().roll(die, false);
    }

    public int faceAfter(int die, int count) {
        die(die);
        range(count, 1, 200);
        State copy = state.copy();
        copy.throwing(0, die, count, false);
        return copy.record.get(copy.record.size() - 1).face;
    }

    public int throwsUntil(int die, int face) {
        die(die);
        face(die, face);
        State copy = state.copy();
        for (int made = 1; made <= 200; made++) {
            if (copy.roll(die, false) == face) {
                return made;
            }
        }
        return -1;
    }

    public int scoreAfter(int player, int die, int count) {
        pair(player, die);
        range(count, 0, 50);
        State copy = state.copy();
        copy.throwing(player, die, count, false);
        return copy.score(player, die);
    }

    public int throwsUntilSuspicious(int player, int die) {
        pair(player, die);
        State copy = state.copy();
        for (int made = 0; made <= 50; made++) {
            if (copy.suspicious(player, die)) {
                return made;
            }
            copy.throwing(player, die, 1, false);
        }
        return -1;
    }

    public int penanceNow() {
        if (state.queue.isEmpty()) {
            return 0;
        }
        Offence first = state.queue.first();
        return Math.min(first.score, state.pair(first.player, first.die).size());
    }

    public int frequencyDifference() {
        return 0;
    }

    public int totalDifference() {
        return 0;
    }

    public float fairShare() {
        long fair = state.record.stream().filter(Throw::fair).count();
        return state.record.isEmpty() ? 0.0f : (float) fair / (float) state.record.size();
    }

    public int throwDie(int player, int die, int count) {
        pair(player, die);
        range(count, 1, 50);
        if (state.record.size() + count > 300) {
            throw new IllegalStateException();
        }
        remember();
        return state.throwing(player, die, count, false);
    }

    public int audit() {
        remember();
        return state.auditing();
    }

    public int absolve() {
        if (state.queue.isEmpty()) {
            throw new IllegalStateException();
        }
        remember();
        return state.absolving();
    }

    public int forgive(int player) {
        player(player);
        remember();
        return state.forgiving(player);
    }

    public int setWeight(int die, int face, int weight) {
        die(die);
        face(die, face);
        range(weight, 0, 9);
        List<Integer> weights = new ArrayList<>(state.dice.get(die));
        weights.set(face - 1, weight);
        if (weights.stream().allMatch(w -> w == 0)) {
            throw new IllegalStateException();
        }
        remember();
        return state.dice.get(die).set(face - 1, weight);
    }

    public int setSeed(int seed) {
        range(seed, 0, 65536);
        remember();
        int previous = state.seed;
        state.seed = seed;
        return previous;
    }

    public int setLimits(int minimum, int threshold) {
        range(minimum, 1, 99);
        range(threshold, 0, 999);
        remember();
        state.minimum = minimum;
        state.threshold = threshold;
        return suspiciousPairs();
    }

    public int writeRecords() {
        TreeMap<String, Integer> players = new TreeMap<>();
        state.names.forEach(name -> players.put(name, state.names.indexOf(name)));
        List<String> records = new ArrayList<>();
        players.forEach((name, player) -> {
            if (throwsOf(player) > 0) {
                records.add(name + ":" + total(player) + (offencesOf(player) > 0 ? "!" : ""));
            }
        });
        output = String.join(" ", records);
        return output.length();
    }

    public int writeFaces(int player) {
        player(player);
        output = String.join(",", own(player).stream().map(t -> "" + t.face).toList());
        return output.length();
    }

    public int outputByte(int position) {
        if (position < 0 || position >= output.length()) {
            throw new NoSuchElementException();
        }
        return output.charAt(position);
    }

    public int save(int slot) {
        index(slot, 2);
        slots[slot] = state.copy();
        return state.record.size();
    }

    public int restore(int slot) {
        index(slot, 2);
        if (slots[slot] == null) {
            throw new IllegalStateException();
        }
        remember();
        state = slots[slot].copy();
        return state.record.size();
    }

    public int undo() {
        if (remembered.isEmpty()) {
            throw new IllegalStateException();
        }
        state = remembered.removeLast();
        return remembered.size();
    }

    public int undoDepth() {
        return remembered.size();
    }
}
