import java.util.Arrays;
import java.util.NoSuchElementException;

/** An audit of dice throws: loaded dice, records, offences and penances. */
public final class DiceAudit {
    public static final int NONE = -1;

    private static final String FIRST_TEXT = "hall 1 6 3;die 1 1 1 1 1 1;die 0 1 1 4;player ann;player bob;player cid;throw ann 0 6;throw bob 1 8;throw ann 1 3;audit;throw cid 0 2;";
    private static final int MAX_SEED = 65536;
    private static final int MAX_MINIMUM = 99;
    private static final int MAX_THRESHOLD = 999;
    private static final int MAX_DICE = 6;
    private static final int MIN_FACES = 2;
    private static final int MAX_FACES = 12;
    private static final int MAX_WEIGHT = 9;
    private static final int MAX_PLAYERS = 6;
    private static final int MAX_LETTERS = 4;
    private static final int MAX_PAIRS = MAX_PLAYERS * MAX_DICE;
    private static final int MAX_THROWS = 300;
    private static final int MAX_TIMES = 50;
    private static final int MAX_FORESEEN = 200;
    private static final int MAX_REMEMBERED = 8;
    private static final int SLOTS = 2;
    private static final int APPENDED_BYTES = 20;
    private static final int INPUT_LIMIT = 600;
    // The longest output has 300 faces of two digits and the commas between them.
    private static final int TEXT_LIMIT = 900;

    private final Text input;
    private final Loader loader;
    private final Text output = new Text();
    private final Hall hall = new Hall();
    private final Forecast forecast = new Forecast();
    private final History history = new History();
    private final Hall[] slots = new Hall[SLOTS];
    private final int[] slotsInUse = new int[SLOTS];

    public DiceAudit() {
        Text text = new Text();
        Loader reader = new Loader(text);
        text.appendString(FIRST_TEXT);
        reader.parse();
        text.cutTo(0);
        input = text;
        loader = reader;
        hall.copyFrom(reader.draft);
        for (int slot = 0; slot < slots.length; slot++) {
            slots[slot] = new Hall();
        }
    }

    // The input text

    public int appendInput(int a, int b, int c, int d, int e) throws IllegalStateException {
        if (input.length + APPENDED_BYTES > INPUT_LIMIT) {
            throw new IllegalStateException("the input buffer is full");
        }
        input.appendWord(a);
        input.appendWord(b);
        input.appendWord(c);
        input.appendWord(d);
        input.appendWord(e);
        return input.length;
    }

    public int truncateInput(int length) throws IllegalArgumentException {
        requireRange(length, 0, input.length);
        input.cutTo(length);
        return input.length;
    }

    public int load() throws IllegalArgumentException {
        boolean good = loader.parse();
        input.cutTo(0);
        if (!good) {
            throw new IllegalArgumentException("the text has an error");
        }
        history.remember(hall);
        hall.copyFrom(loader.draft);
        return hall.ledger.count;
    }

    public int errorCode() {
        return loader.error;
    }

    public int errorPosition() {
        return loader.errorOffset;
    }

    // The hall, its dice and its players

    public int seed() {
        return hall.seed;
    }

    public int minimum() {
        return hall.minimum;
    }

    public int threshold() {
        return hall.threshold;
    }

    public int dieCount() {
        return hall.dice.count;
    }

    public int playerCount() {
        return hall.players.count;
    }

    public int throwCount() {
        return hall.ledger.count;
    }

    public int faces(int die) throws IndexOutOfBoundsException {
        requireDie(die);
        return hall.dice.faceCount(die);
    }

    public int weightOf(int die, int face) throws IndexOutOfBoundsException, IllegalArgumentException {
        requireDie(die);
        requireFace(die, face);
        return hall.dice.weight(die, face);
    }

    public boolean isBalanced(int die) throws IndexOutOfBoundsException {
        requireDie(die);
        return hall.dice.hasEqualWeights(die);
    }

    public int heaviestFace(int die) throws IndexOutOfBoundsException {
        requireDie(die);
        return greatestCell(hall.dice.weights, cellOf(die, 1), hall.dice.faceCount(die));
    }

    public int nameByte(int player, int position) throws IndexOutOfBoundsException, NoSuchElementException {
        requirePlayer(player);
        if (position < 0 || position >= hall.players.nameLength(player)) {
            throw new NoSuchElementException("the name has no such position");
        }
        return hall.players.letter(player, position);
    }

    // The record

    public int playerAt(int index) throws IndexOutOfBoundsException {
        requireThrow(index);
        return playerOf(hall.ledger.pairIn(index));
    }

    public int dieAt(int index) throws IndexOutOfBoundsException {
        requireThrow(index);
        return dieOf(hall.ledger.pairIn(index));
    }

    public int faceAt(int index) throws IndexOutOfBoundsException {
        requireThrow(index);
        return hall.ledger.faceIn(index);
    }

    public boolean isFairAt(int index) throws IndexOutOfBoundsException {
        requireThrow(index);
        return hall.ledger.isMarked(index);
    }

    public int throwsOf(int player) throws IndexOutOfBoundsException {
        requirePlayer(player);
        return hall.ledger.playerThrows(player);
    }

    public int total(int player) throws IndexOutOfBoundsException {
        requirePlayer(player);
        return hall.ledger.playerTotal(player);
    }

    public double meanFace(int player) throws IndexOutOfBoundsException {
        requirePlayer(player);
        int made = hall.ledger.playerThrows(player);
        if (made == 0) {
            return 0.0;
        }
        return (double) hall.ledger.playerTotal(player) / (double) made;
    }

    public int rankOf(int player) throws IndexOutOfBoundsException {
        requirePlayer(player);
        return hall.placeByTotal(player);
    }

    public int playerWithRank(int rank) throws NoSuchElementException {
        for (int player = 0; player < hall.players.count; player++) {
            if (hall.placeByTotal(player) == rank) {
                return player;
            }
        }
        throw new NoSuchElementException("no such rank");
    }

    public int longestRun(int player) throws IndexOutOfBoundsException {
        requirePlayer(player);
        return hall.ledger.longestStreak(player);
    }

    public int findPlayer() {
        return hall.players.find(input, 0, input.length);
    }

    // The pairs and the test

    public int throwsOfPair(int player, int die) throws IndexOutOfBoundsException {
        requirePair(player, die);
        return hall.ledger.pairThrows(pairOf(player, die));
    }

    public int frequency(int player, int die, int face) throws IndexOutOfBoundsException, IllegalArgumentException {
        requirePair(player, die);
        requireFace(die, face);
        return at(hall.ledger.frequencies, cellOf(pairOf(player, die), face));
    }

    public int commonFace(int player, int die) throws IndexOutOfBoundsException {
        requirePair(player, die);
        int pair = pairOf(player, die);
        return greatestCell(hall.ledger.frequencies, cellOf(pair, 1), hall.dice.faceCount(die));
    }

    public int facesSeen(int player, int die) throws IndexOutOfBoundsException {
        requirePair(player, die);
        return hall.ledger.distinctFaces(pairOf(player, die));
    }

    public int latestThrow(int player, int die) throws IndexOutOfBoundsException {
        requirePair(player, die);
        return hall.ledger.latestOf(pairOf(player, die));
    }

    public int score(int player, int die) throws IndexOutOfBoundsException {
        requirePair(player, die);
        return hall.pairScore(pairOf(player, die));
    }

    public boolean isSuspicious(int player, int die) throws IndexOutOfBoundsException {
        requirePair(player, die);
        return hall.isPairSuspicious(pairOf(player, die));
    }

    public int suspiciousPairs() {
        return hall.countSuspicious();
    }

    public int worstPair() {
        if (hall.ledger.count == 0) {
            return NONE;
        }
        int worst = hall.pairWithGreatestScore();
        return 10 * playerOf(worst) + dieOf(worst);
    }

    // The queue of offences

    public int offenceCount() {
        return hall.offences.count;
    }

    public int offencePlayer(int rank) throws IndexOutOfBoundsException {
        requireOffence(rank);
        return playerOf(at(hall.offences.pairs, rank));
    }

    public int offenceDie(int rank) throws IndexOutOfBoundsException {
        requireOffence(rank);
        return dieOf(at(hall.offences.pairs, rank));
    }

    public int offenceScore(int rank) throws IndexOutOfBoundsException {
        requireOffence(rank);
        return at(hall.offences.scores, rank);
    }

    public int offencesOf(int player) throws IndexOutOfBoundsException {
        requirePlayer(player);
        return hall.offences.countOf(player);
    }

    // What would be thrown

    public int nextFace(int die) throws IndexOutOfBoundsException {
        requireDie(die);
        return hall.dice.faceShown(die, nextSeed(hall.seed));
    }

    public int faceAfter(int die, int count) throws IndexOutOfBoundsException, IllegalArgumentException {
        requireDie(die);
        requireRange(count, 1, MAX_FORESEEN);
        int last = hall.seed;
        for (int made = 0; made < count; made++) {
            last = nextSeed(last);
        }
        return hall.dice.faceShown(die, last);
    }

    public int throwsUntil(int die, int face) throws IndexOutOfBoundsException, IllegalArgumentException {
        requireDie(die);
        requireFace(die, face);
        int last = hall.seed;
        for (int made = 1; made <= MAX_FORESEEN; made++) {
            last = nextSeed(last);
            if (hall.dice.faceShown(die, last) == face) {
                return made;
            }
        }
        return NONE;
    }

    public int scoreAfter(int player, int die, int count) throws IndexOutOfBoundsException, IllegalArgumentException {
        requirePair(player, die);
        requireRange(count, 0, MAX_TIMES);
        forecast.begin(hall, player, die);
        for (int made = 0; made < count; made++) {
            forecast.throwOnce(hall);
        }
        return forecast.presentScore(hall);
    }

    public int throwsUntilSuspicious(int player, int die) throws IndexOutOfBoundsException {
        requirePair(player, die);
        forecast.begin(hall, player, die);
        for (int made = 0; made <= MAX_TIMES; made++) {
            if (hall.exceedsLimits(forecast.made(), forecast.presentScore(hall))) {
                return made;
            }
            forecast.throwOnce(hall);
        }
        return NONE;
    }

    public int penanceNow() {
        return hall.penanceSize();
    }

    public int frequencyDifference() {
        return hall.ledger.frequencySum() - hall.ledger.count;
    }

    public int totalDifference() {
        int sum = 0;
        for (int player = 0; player < hall.players.count; player++) {
            sum += hall.ledger.playerTotal(player);
        }
        return sum - hall.ledger.faceSum();
    }

    public float fairShare() {
        int made = hall.ledger.count;
        if (made == 0) {
            return 0.0f;
        }
        return (float) hall.ledger.markedThrows() / (float) made;
    }

    // What changes the state

    public int throwDie(int player, int die, int count) throws IndexOutOfBoundsException, IllegalArgumentException, IllegalStateException {
        requirePair(player, die);
        requireRange(count, 1, MAX_TIMES);
        if (hall.ledger.count + count > MAX_THROWS) {
            throw new IllegalStateException("the record would be too long");
        }
        history.remember(hall);
        return hall.makeThrows(pairOf(player, die), count, false);
    }

    public int audit() {
        history.remember(hall);
        return hall.holdAudit();
    }

    public int absolve() throws IllegalStateException {
        if (hall.offences.count == 0) {
            throw new IllegalStateException("the queue is empty");
        }
        history.remember(hall);
        return hall.doPenance();
    }

    public int forgive(int player) throws IndexOutOfBoundsException {
        requirePlayer(player);
        history.remember(hall);
        return hall.offences.removeAllOf(player);
    }

    public int setWeight(int die, int face, int weight) throws IndexOutOfBoundsException, IllegalArgumentException, IllegalStateException {
        requireDie(die);
        requireFace(die, face);
        requireRange(weight, 0, MAX_WEIGHT);
        int previous = hall.dice.weight(die, face);
        if (hall.dice.weightSum(die) - previous + weight == 0) {
            throw new IllegalStateException("all weights would be 0");
        }
        history.remember(hall);
        hall.dice.putWeight(die, face, weight);
        return previous;
    }

    public int setSeed(int seed) throws IllegalArgumentException {
        requireRange(seed, 0, MAX_SEED);
        history.remember(hall);
        int previous = hall.seed;
        hall.seed = seed;
        return previous;
    }

    public int setLimits(int minimum, int threshold) throws IllegalArgumentException {
        requireRange(minimum, 1, MAX_MINIMUM);
        requireRange(threshold, 0, MAX_THRESHOLD);
        history.remember(hall);
        hall.minimum = minimum;
        hall.threshold = threshold;
        return hall.countSuspicious();
    }

    // The output

    public int writeRecords() {
        output.cutTo(0);
        for (int place = 0; place < hall.players.count; place++) {
            writeRecordOf(hall.players.playerInPlace(place));
        }
        return output.length;
    }

    public int writeFaces(int player) throws IndexOutOfBoundsException {
        requirePlayer(player);
        output.cutTo(0);
        for (int index = 0; index < hall.ledger.count; index++) {
            if (playerOf(hall.ledger.pairIn(index)) == player) {
                output.appendSeparator(',');
                output.appendNumber(hall.ledger.faceIn(index));
            }
        }
        return output.length;
    }

    public int outputByte(int position) throws NoSuchElementException {
        if (position < 0 || position >= output.length) {
            throw new NoSuchElementException("the output has no such position");
        }
        return output.byteIn(position);
    }

    // Slots and undo

    public int save(int slot) throws IndexOutOfBoundsException {
        requireSlot(slot);
        if (slot >= 0 && slot < slots.length && slots[slot] != null) {
            slots[slot].copyFrom(hall);
            put(slotsInUse, slot, 1);
        }
        return hall.ledger.count;
    }

    public int restore(int slot) throws IndexOutOfBoundsException, IllegalStateException {
        requireSlot(slot);
        if (at(slotsInUse, slot) == 0) {
            throw new IllegalStateException("the slot is empty");
        }
        history.remember(hall);
        if (slot >= 0 && slot < slots.length && slots[slot] != null) {
            hall.copyFrom(slots[slot]);
        }
        return hall.ledger.count;
    }

    public int undo() throws IllegalStateException {
        if (history.depth == 0) {
            throw new IllegalStateException("no call is remembered");
        }
        history.bringBack(hall);
        return history.depth;
    }

    public int undoDepth() {
        return history.depth;
    }

    private void writeRecordOf(int player) {
        if (hall.ledger.playerThrows(player) == 0) {
            return;
        }
        output.appendSeparator(' ');
        for (int position = 0; position < hall.players.nameLength(player); position++) {
            output.append(hall.players.letter(player, position));
        }
        output.append(':');
        output.appendNumber(hall.ledger.playerTotal(player));
        if (hall.offences.countOf(player) > 0) {
            output.append('!');
        }
    }

    private void requireDie(int die) {
        requireIndex(die, hall.dice.count);
    }

    private void requirePlayer(int player) {
        requireIndex(player, hall.players.count);
    }

    private void requirePair(int player, int die) {
        requirePlayer(player);
        requireDie(die);
    }

    private void requireThrow(int index) {
        requireIndex(index, hall.ledger.count);
    }

    private void requireOffence(int rank) {
        requireIndex(rank, hall.offences.count);
    }

    private void requireFace(int die, int face) {
        requireRange(face, 1, hall.dice.faceCount(die));
    }

    private static void requireSlot(int slot) {
        requireIndex(slot, SLOTS);
    }

    private static void requireIndex(int index, int count) {
        if (index < 0 || index >= count) {
            throw new IndexOutOfBoundsException("there is none with this number");
        }
    }

    private static void requireRange(int value, int least, int greatest) {
        if (value < least || value > greatest) {
            throw new IllegalArgumentException("the argument is out of range");
        }
    }

    // Rows are read and written here alone, so that no index goes untested.

    private static int at(int[] row, int index) {
        return index >= 0 && index < row.length ? row[index] : 0;
    }

    private static void put(int[] row, int index, int value) {
        if (index >= 0 && index < row.length) {
            row[index] = value;
        }
    }

    private static void copyRow(int[] from, int[] to) {
        if (from.length == to.length) {
            System.arraycopy(from, 0, to, 0, to.length);
        }
    }

    private static int sumOf(int[] row, int first, int size) {
        int sum = 0;
        for (int i = 0; i < size; i++) {
            int index = first + i;
            sum += index >= 0 && index < row.length ? row[index] : 0;
        }
        return sum;
    }

    /** The number, from 1, of the first cell with the greatest value; NONE if no value is above 0. */
    private static int greatestCell(int[] row, int first, int size) {
        int number = NONE;
        int greatest = 0;
        for (int i = 0; i < size; i++) {
            int value = at(row, first + i);
            if (value > greatest) {
                greatest = value;
                number = i + 1;
            }
        }
        return number;
    }

    private static int testScore(int[] frequencies, int first, int size) {
        int made = sumOf(frequencies, first, size);
        int divisor = made * size;
        if (divisor <= 0) {
            return 0;
        }
        int sum = 0;
        for (int i = 0; i < size; i++) {
            int deviation = size * at(frequencies, first + i) - made;
            sum += deviation * deviation;
        }
        return sum / divisor;
    }

    private static int nextSeed(int seed) {
        return (75 * seed + 74) % 65537;
    }

    private static int pairOf(int player, int die) {
        return player * MAX_DICE + die;
    }

    private static int playerOf(int pair) {
        return pair / MAX_DICE;
    }

    private static int dieOf(int pair) {
        return pair % MAX_DICE;
    }

    /** The cell of a face in a table that has a row of faces for each die, or for each pair. */
    private static int cellOf(int row, int face) {
        return row * MAX_FACES + face - 1;
    }

    /** A row of bytes: the input or the output. */
    private static final class Text {
        final int[] bytes = new int[TEXT_LIMIT];
        int length = 0;

        int byteIn(int position) {
            return position >= 0 && position < length && position < TEXT_LIMIT ? bytes[position] : NONE;
        }

        void append(int value) {
            if (length < TEXT_LIMIT) {
                put(bytes, length, value);
                length++;
            }
        }

        void appendWord(int word) {
            for (int shift = 24; shift >= 0; shift -= 8) {
                append((word >> shift) & 255);
            }
        }

        void appendString(String string) {
            for (int i = 0; i < string.length(); i++) {
                append(string.charAt(i));
            }
        }

        void appendSeparator(int separator) {
            if (length > 0) {
                append(separator);
            }
        }

        /** Four digits are enough: 300 throws of the face 12 have the greatest total, 3600. */
        void appendNumber(int number) {
            for (int unit = 1000; unit >= 1; unit /= 10) {
                if (number >= unit || unit == 1) {
                    append('0' + number / unit % 10);
                }
            }
        }

        void cutTo(int newLength) {
            length = newLength;
        }
    }

    /** The dice, with the weights of their faces. */
    private static final class Dice {
        final int[] faceCounts = new int[MAX_DICE];
        final int[] weights = new int[MAX_DICE * MAX_FACES];
        int count = 0;

        void clear() {
            count = 0;
        }

        void copyFrom(Dice other) {
            count = other.count;
            copyRow(other.faceCounts, faceCounts);
            copyRow(other.weights, weights);
        }

        /** Adds a die whose weights have been put already, behind those of the last die. */
        void add(int newFaces) {
            if (count < MAX_DICE) {
                put(faceCounts, count, newFaces);
                count++;
            }
        }

        int faceCount(int die) {
            return at(faceCounts, die);
        }

        int weight(int die, int face) {
            return at(weights, cellOf(die, face));
        }

        void putWeight(int die, int face, int weight) {
            put(weights, cellOf(die, face), weight);
        }

        int weightSum(int die) {
            return sumOf(weights, cellOf(die, 1), faceCount(die));
        }

        boolean hasEqualWeights(int die) {
            int first = weight(die, 1);
            for (int face = 2; face <= faceCount(die); face++) {
                if (weight(die, face) != first) {
                    return false;
                }
            }
            return true;
        }

        int faceShown(int die, int newSeed) {
            int last = at(faceCounts, die);
            int sum = sumOf(weights, cellOf(die, 1), last);
            int pick = sum > 0 ? newSeed % sum : 0;
            int reached = 0;
            for (int face = 1; face < last; face++) {
                reached += at(weights, cellOf(die, face));
                if (reached > pick) {
                    return face;
                }
            }
            return last;
        }

        int fairFaceShown(int die, int newSeed) {
            int last = at(faceCounts, die);
            return last > 0 ? newSeed % last + 1 : 1;
        }
    }

    /** The players' names, each in four cells of which the unused ones are 0. */
    private static final class Players {
        final int[] lengths = new int[MAX_PLAYERS];
        final int[] letters = new int[MAX_PLAYERS * MAX_LETTERS];
        int count = 0;

        void clear() {
            count = 0;
        }

        void copyFrom(Players other) {
            count = other.count;
            copyRow(other.lengths, lengths);
            copyRow(other.letters, letters);
        }

        void add(Text text, int start, int end) {
            if (count >= MAX_PLAYERS) {
                return;
            }
            for (int i = 0; i < MAX_LETTERS; i++) {
                put(letters, count * MAX_LETTERS + i, start + i < end ? text.byteIn(start + i) : 0);
            }
            put(lengths, count, end - start);
            count++;
        }

        int nameLength(int player) {
            return at(lengths, player);
        }

        int letter(int player, int position) {
            return at(letters, player * MAX_LETTERS + position);
        }

        int find(Text text, int start, int end) {
            for (int player = 0; player < count; player++) {
                if (isNamed(player, text, start, end)) {
                    return player;
                }
            }
            return NONE;
        }

        private boolean isNamed(int player, Text text, int start, int end) {
            int length = at(lengths, player);
            if (length != end - start) {
                return false;
            }
            for (int i = 0; i < length; i++) {
                if (at(letters, player * MAX_LETTERS + i) != text.byteIn(start + i)) {
                    return false;
                }
            }
            return true;
        }

        /** An unused cell is 0, so a name comes before a longer one that begins with it. */
        boolean comesBefore(int player, int other) {
            for (int i = 0; i < MAX_LETTERS; i++) {
                int difference = letter(player, i) - letter(other, i);
                if (difference != 0) {
                    return difference < 0;
                }
            }
            return false;
        }

        int playerInPlace(int place) {
            for (int player = 0; player < count; player++) {
                if (placeByName(player) == place) {
                    return player;
                }
            }
            return NONE;
        }

        private int placeByName(int player) {
            int place = 0;
            for (int other = 0; other < count; other++) {
                if (comesBefore(other, player)) {
                    place++;
                }
            }
            return place;
        }
    }

    /** The record, and a table of the frequencies in it that is kept up with it. */
    private static final class Ledger {
        // A throw is held as one number: the pair, then four bits for the face, then the fair mark.
        final int[] entries = new int[MAX_THROWS];
        final int[] frequencies = new int[MAX_PAIRS * MAX_FACES];
        int count = 0;

        void clear() {
            count = 0;
            Arrays.fill(frequencies, 0);
        }

        void copyFrom(Ledger other) {
            count = other.count;
            copyRow(other.entries, entries);
            copyRow(other.frequencies, frequencies);
        }

        void add(int pair, int face, boolean fair) {
            if (count < MAX_THROWS) {
                put(entries, count, pair << 5 | face << 1 | (fair ? 1 : 0));
                int cell = cellOf(pair, face);
                put(frequencies, cell, at(frequencies, cell) + 1);
                count++;
            }
        }

        int pairIn(int index) {
            return at(entries, index) >> 5;
        }

        int faceIn(int index) {
            return at(entries, index) >> 1 & 15;
        }

        boolean isMarked(int index) {
            return (at(entries, index) & 1) == 1;
        }

        /** Writes the record anew over itself, which is safe as no throw moves to a later index. */
        void removeLatest(int pair, int removed) {
            int kept = pairThrows(pair) - removed;
            int oldCount = count;
            clear();
            for (int index = 0; index < oldCount; index++) {
                int made = pairIn(index);
                if (made != pair || kept > 0) {
                    add(made, faceIn(index), isMarked(index));
                }
                if (made == pair) {
                    kept--;
                }
            }
        }

        int pairThrows(int pair) {
            return sumOf(frequencies, cellOf(pair, 1), MAX_FACES);
        }

        int distinctFaces(int pair) {
            int seen = 0;
            for (int face = 1; face <= MAX_FACES; face++) {
                if (at(frequencies, cellOf(pair, face)) > 0) {
                    seen++;
                }
            }
            return seen;
        }

        int latestOf(int pair) {
            for (int index = count - 1; index >= 0; index--) {
                if (pairIn(index) == pair) {
                    return index;
                }
            }
            return NONE;
        }

        int playerThrows(int player) {
            return sumOf(frequencies, cellOf(pairOf(player, 0), 1), MAX_DICE * MAX_FACES);
        }

        int playerTotal(int player) {
            int sum = 0;
            for (int die = 0; die < MAX_DICE; die++) {
                for (int face = 1; face <= MAX_FACES; face++) {
                    sum += face * at(frequencies, cellOf(pairOf(player, die), face));
                }
            }
            return sum;
        }

        int longestStreak(int player) {
            int longest = 0;
            int present = 0;
            int previousFace = 0;
            for (int index = 0; index < count; index++) {
                if (playerOf(pairIn(index)) == player) {
                    present = faceIn(index) == previousFace ? present + 1 : 1;
                    previousFace = faceIn(index);
                    longest = Math.max(longest, present);
                }
            }
            return longest;
        }

        int frequencySum() {
            return sumOf(frequencies, 0, frequencies.length);
        }

        int faceSum() {
            int sum = 0;
            for (int index = 0; index < count; index++) {
                sum += faceIn(index);
            }
            return sum;
        }

        int markedThrows() {
            int marked = 0;
            for (int index = 0; index < count; index++) {
                if (isMarked(index)) {
                    marked++;
                }
            }
            return marked;
        }
    }

    /** The queue of offences, kept in its order. */
    private static final class Offences {
        final int[] pairs = new int[MAX_PAIRS];
        final int[] scores = new int[MAX_PAIRS];
        int count = 0;

        void clear() {
            count = 0;
        }

        void copyFrom(Offences other) {
            count = other.count;
            copyRow(other.pairs, pairs);
            copyRow(other.scores, scores);
        }

        boolean has(int pair) {
            for (int rank = 0; rank < count; rank++) {
                if (at(pairs, rank) == pair) {
                    return true;
                }
            }
            return false;
        }

        void add(int pair, int newScore) {
            if (count >= MAX_PAIRS) {
                return;
            }
            int rank = count;
            while (rank > 0 && goesBefore(pair, newScore, rank - 1)) {
                set(rank, at(pairs, rank - 1), at(scores, rank - 1));
                rank--;
            }
            set(rank, pair, newScore);
            count++;
        }

        /** The numbers of the pairs ascend by player and then by die, as the queue wants it. */
        private boolean goesBefore(int pair, int newScore, int rank) {
            int other = at(scores, rank);
            return newScore > other || newScore == other && pair < at(pairs, rank);
        }

        private void set(int rank, int pair, int newScore) {
            put(pairs, rank, pair);
            put(scores, rank, newScore);
        }

        void removeFirst() {
            for (int rank = 1; rank < count; rank++) {
                set(rank - 1, at(pairs, rank), at(scores, rank));
            }
            count = Math.max(0, count - 1);
        }

        int removeAllOf(int player) {
            int kept = 0;
            for (int rank = 0; rank < count; rank++) {
                if (playerOf(at(pairs, rank)) != player) {
                    set(kept, at(pairs, rank), at(scores, rank));
                    kept++;
                }
            }
            int removed = count - kept;
            count = kept;
            return removed;
        }

        int countOf(int player) {
            int own = 0;
            for (int rank = 0; rank < count; rank++) {
                if (playerOf(at(pairs, rank)) == player) {
                    own++;
                }
            }
            return own;
        }
    }

    /** The state: all that undo and the slots bring back. */
    private static final class Hall {
        final Dice dice = new Dice();
        final Players players = new Players();
        final Ledger ledger = new Ledger();
        final Offences offences = new Offences();
        int seed = 0;
        int minimum = 1;
        int threshold = 0;

        void begin(int newSeed, int newMinimum, int newThreshold) {
            seed = newSeed;
            minimum = newMinimum;
            threshold = newThreshold;
            dice.clear();
            players.clear();
            ledger.clear();
            offences.clear();
        }

        void copyFrom(Hall other) {
            seed = other.seed;
            minimum = other.minimum;
            threshold = other.threshold;
            dice.copyFrom(other.dice);
            players.copyFrom(other.players);
            ledger.copyFrom(other.ledger);
            offences.copyFrom(other.offences);
        }

        int makeThrows(int pair, int times, boolean fair) {
            int die = dieOf(pair);
            int sum = 0;
            for (int made = 0; made < times; made++) {
                seed = nextSeed(seed);
                int face = fair ? dice.fairFaceShown(die, seed) : dice.faceShown(die, seed);
                ledger.add(pair, face, fair);
                sum += face;
            }
            return sum;
        }

        int pairScore(int pair) {
            return testScore(ledger.frequencies, cellOf(pair, 1), dice.faceCount(dieOf(pair)));
        }

        boolean exceedsLimits(int made, int score) {
            return made >= minimum && score > threshold;
        }

        boolean isPairSuspicious(int pair) {
            return exceedsLimits(ledger.pairThrows(pair), pairScore(pair));
        }

        // A pair that does not exist has no throws, so the walks over all 36 numbers pass it by.

        int countSuspicious() {
            int found = 0;
            for (int pair = 0; pair < MAX_PAIRS; pair++) {
                if (isPairSuspicious(pair)) {
                    found++;
                }
            }
            return found;
        }

        int pairWithGreatestScore() {
            int worst = 0;
            int greatest = 0;
            for (int pair = 0; pair < MAX_PAIRS; pair++) {
                int found = pairScore(pair);
                if (found > greatest) {
                    greatest = found;
                    worst = pair;
                }
            }
            return worst;
        }

        int holdAudit() {
            int before = offences.count;
            for (int pair = 0; pair < MAX_PAIRS; pair++) {
                int found = pairScore(pair);
                if (exceedsLimits(ledger.pairThrows(pair), found) && !offences.has(pair)) {
                    offences.add(pair, found);
                }
            }
            return offences.count - before;
        }

        int penanceSize() {
            if (offences.count == 0) {
                return 0;
            }
            return Math.min(at(offences.scores, 0), ledger.pairThrows(at(offences.pairs, 0)));
        }

        int doPenance() {
            int size = penanceSize();
            int pair = at(offences.pairs, 0);
            offences.removeFirst();
            ledger.removeLatest(pair, size);
            return makeThrows(pair, size, true);
        }

        int placeByTotal(int player) {
            int place = 0;
            for (int other = 0; other < players.count; other++) {
                if (ranksBefore(other, player)) {
                    place++;
                }
            }
            return place;
        }

        private boolean ranksBefore(int player, int other) {
            int difference = ledger.playerTotal(player) - ledger.playerTotal(other);
            return difference != 0 ? difference > 0 : players.comesBefore(player, other);
        }
    }

    /** A pair's frequencies and the seed, thrown on beside the state. */
    private static final class Forecast {
        final int[] frequencies = new int[MAX_FACES];
        int die = 0;
        int seed = 0;

        void begin(Hall hall, int player, int pairDie) {
            die = pairDie;
            seed = hall.seed;
            for (int face = 1; face <= MAX_FACES; face++) {
                put(frequencies, face - 1, at(hall.ledger.frequencies, cellOf(pairOf(player, die), face)));
            }
        }

        void throwOnce(Hall hall) {
            seed = nextSeed(seed);
            int cell = hall.dice.faceShown(die, seed) - 1;
            put(frequencies, cell, at(frequencies, cell) + 1);
        }

        int made() {
            return sumOf(frequencies, 0, MAX_FACES);
        }

        int presentScore(Hall hall) {
            return testScore(frequencies, 0, hall.dice.faceCount(die));
        }
    }

    /** A ring of the states before the latest undoable calls. */
    private static final class History {
        final Hall[] rows = new Hall[MAX_REMEMBERED];
        int next = 0;
        int depth = 0;

        History() {
            for (int i = 0; i < rows.length; i++) {
                rows[i] = new Hall();
            }
        }

        void remember(Hall hall) {
            if (next >= 0 && next < rows.length && rows[next] != null) {
                rows[next].copyFrom(hall);
            }
            next = (next + 1) % MAX_REMEMBERED;
            depth = Math.min(depth + 1, MAX_REMEMBERED);
        }

        void bringBack(Hall hall) {
            next = (next + MAX_REMEMBERED - 1) % MAX_REMEMBERED;
            depth = Math.max(depth - 1, 0);
            if (next >= 0 && next < rows.length && rows[next] != null) {
                hall.copyFrom(rows[next]);
            }
        }
    }

    /** The tokens of the input text, one at a time. */
    private static final class Tokens {
        static final int END = 0;
        static final int WORD = 1;
        static final int NUMBER = 2;
        static final int SIGN = 3;
        // Any value above all ranges will do for a number that is too long to be held.
        static final int TOO_GREAT = 1000000;

        final Text text;
        int kind = END;
        int start = 0;
        int end = 0;
        int value = 0;

        Tokens(Text input) {
            text = input;
        }

        void rewind() {
            end = 0;
            advance();
        }

        void advance() {
            start = end;
            while (start < text.length && isBlank(text.byteIn(start))) {
                start++;
            }
            end = start;
            int first = text.byteIn(start);
            if (start >= text.length) {
                kind = END;
            } else if (isLetter(first)) {
                kind = WORD;
                passLetters();
            } else if (isDigit(first)) {
                kind = NUMBER;
                passDigits();
            } else {
                kind = SIGN;
                end = start + 1;
            }
        }

        private void passLetters() {
            while (end < text.length && isLetter(text.byteIn(end))) {
                end++;
            }
        }

        private void passDigits() {
            value = 0;
            while (end < text.length && isDigit(text.byteIn(end))) {
                value = Math.min(value * 10 + text.byteIn(end) - '0', TOO_GREAT);
                end++;
            }
        }

        boolean isWord(String word) {
            if (kind != WORD || end - start != word.length()) {
                return false;
            }
            for (int i = 0; i < word.length(); i++) {
                if (word.charAt(i) != text.byteIn(start + i)) {
                    return false;
                }
            }
            return true;
        }

        boolean isSemicolon() {
            return kind == SIGN && text.byteIn(start) == ';';
        }

        private static boolean isBlank(int sign) {
            return sign == ' ' || sign == '\n';
        }

        private static boolean isLetter(int sign) {
            return sign >= 'a' && sign <= 'z';
        }

        private static boolean isDigit(int sign) {
            return sign >= '0' && sign <= '9';
        }
    }

    /** Executes the statements of the input text in a draft; after an error nothing more is taken. */
    private static final class Loader {
        static final int NO_ERROR = 0;
        static final int NOT_ALLOWED = 1;
        static final int OUT_OF_RANGE = 2;
        static final int NAME_IN_USE = 3;
        static final int NAME_UNKNOWN = 4;
        static final int TOO_MANY = 5;
        static final int NOT_POSSIBLE = 6;

        final Text text;
        final Tokens tokens;
        final Hall draft = new Hall();
        int error = NO_ERROR;
        int errorOffset = NONE;

        Loader(Text input) {
            text = input;
            tokens = new Tokens(input);
        }

        boolean parse() {
            error = NO_ERROR;
            errorOffset = NONE;
            tokens.rewind();
            readHall();
            for (int statement = 0; statement < INPUT_LIMIT && hasMore(); statement++) {
                readStatement();
            }
            return error == NO_ERROR;
        }

        private boolean hasMore() {
            return error == NO_ERROR && tokens.kind != Tokens.END;
        }

        private void readHall() {
            takeKeyword(tokens.isWord("hall") ? NO_ERROR : NOT_ALLOWED);
            int seed = takeNumber(0, MAX_SEED);
            int minimum = takeNumber(1, MAX_MINIMUM);
            int threshold = takeNumber(0, MAX_THRESHOLD);
            takeSemicolon(NO_ERROR);
            if (error == NO_ERROR) {
                draft.begin(seed, minimum, threshold);
            }
        }

        private void readStatement() {
            if (tokens.isWord("die")) {
                readDie();
            } else if (tokens.isWord("player")) {
                readPlayer();
            } else if (tokens.isWord("throw")) {
                readThrow();
            } else if (tokens.isWord("audit")) {
                readAudit();
            } else if (tokens.isWord("absolve")) {
                readAbsolve();
            } else if (tokens.isWord("forgive")) {
                readForgive();
            } else {
                fail(NOT_ALLOWED);
            }
        }

        private void readDie() {
            int die = draft.dice.count;
            takeKeyword(die >= MAX_DICE ? TOO_MANY : NO_ERROR);
            int taken = 0;
            int sum = 0;
            while (taken <= MAX_FACES && error == NO_ERROR && !(taken >= MIN_FACES && tokens.isSemicolon())) {
                // A 13th weight that is out of range has the smaller code of that, from takeNumber.
                if (taken >= MAX_FACES && isNumberIn(0, MAX_WEIGHT)) {
                    fail(TOO_MANY);
                }
                int weight = takeNumber(0, MAX_WEIGHT);
                taken++;
                sum += weight;
                if (error == NO_ERROR) {
                    draft.dice.putWeight(die, taken, weight);
                }
            }
            takeSemicolon(sum == 0 ? NOT_POSSIBLE : NO_ERROR);
            if (error == NO_ERROR) {
                draft.dice.add(taken);
            }
        }

        private void readPlayer() {
            takeKeyword(draft.players.count >= MAX_PLAYERS ? TOO_MANY : NO_ERROR);
            int start = tokens.start;
            int end = tokens.end;
            takeNewName();
            takeSemicolon(NO_ERROR);
            if (error == NO_ERROR) {
                draft.players.add(text, start, end);
            }
        }

        private void takeNewName() {
            if (tokens.kind != Tokens.WORD) {
                fail(NOT_ALLOWED);
            } else if (tokens.end - tokens.start > MAX_LETTERS) {
                fail(OUT_OF_RANGE);
            } else if (draft.players.find(text, tokens.start, tokens.end) != NONE) {
                fail(NAME_IN_USE);
            } else {
                tokens.advance();
            }
        }

        private void readThrow() {
            tokens.advance();
            int player = takeKnownName();
            int die = takeNumber(0, draft.dice.count - 1);
            int times = takeNumber(1, MAX_TIMES);
            takeSemicolon(draft.ledger.count + times > MAX_THROWS ? NOT_POSSIBLE : NO_ERROR);
            if (error == NO_ERROR) {
                draft.makeThrows(pairOf(player, die), times, false);
            }
        }

        private void readAudit() {
            tokens.advance();
            takeSemicolon(NO_ERROR);
            if (error == NO_ERROR) {
                draft.holdAudit();
            }
        }

        private void readAbsolve() {
            tokens.advance();
            takeSemicolon(draft.offences.count == 0 ? NOT_POSSIBLE : NO_ERROR);
            if (error == NO_ERROR) {
                draft.doPenance();
            }
        }

        private void readForgive() {
            tokens.advance();
            int player = takeKnownName();
            takeSemicolon(NO_ERROR);
            if (error == NO_ERROR) {
                draft.offences.removeAllOf(player);
            }
        }

        private int takeKnownName() {
            if (tokens.kind != Tokens.WORD) {
                fail(NOT_ALLOWED);
                return NONE;
            }
            int player = draft.players.find(text, tokens.start, tokens.end);
            if (player == NONE) {
                fail(NAME_UNKNOWN);
                return NONE;
            }
            tokens.advance();
            return player;
        }

        private void takeKeyword(int errorOfWord) {
            if (errorOfWord != NO_ERROR) {
                fail(errorOfWord);
            } else {
                tokens.advance();
            }
        }

        private boolean isNumberIn(int least, int greatest) {
            return tokens.kind == Tokens.NUMBER && tokens.value >= least && tokens.value <= greatest;
        }

        private int takeNumber(int least, int greatest) {
            if (error != NO_ERROR) {
                return NONE;
            }
            if (!isNumberIn(least, greatest)) {
                fail(tokens.kind == Tokens.NUMBER ? OUT_OF_RANGE : NOT_ALLOWED);
                return NONE;
            }
            int number = tokens.value;
            tokens.advance();
            return number;
        }

        private void takeSemicolon(int errorOfSemicolon) {
            if (error != NO_ERROR) {
                return;
            }
            if (!tokens.isSemicolon()) {
                fail(NOT_ALLOWED);
            } else if (errorOfSemicolon != NO_ERROR) {
                fail(errorOfSemicolon);
            } else {
                tokens.advance();
            }
        }

        /** Only the first error counts, that of the first token that has one. */
        private void fail(int code) {
            if (error == NO_ERROR) {
                error = code;
                errorOffset = tokens.start;
            }
        }
    }
}
