import java.util.ArrayList;
import java.util.List;
import java.util.function.Consumer;
import java.util.function.Function;
import java.util.function.ToIntFunction;

/**
 * A DiceAudit as the tests use it. The document promises nothing of an object after its 512th call: before that a new
 * one takes its place, and all the calls that are no questions are made again on it.
 */
final class Audit {
    private static final int PROMISED_CALLS = 512;

    private final List<Consumer<DiceAudit>> kept = new ArrayList<>();
    private Consumer<DiceAudit> latestQuestion = x -> { };
    private DiceAudit real = new DiceAudit();
    private int calls = 0;

    /** Another object with the same calls, the latest question among them: what that has spoilt is seen there too. */
    Audit again() {
        Audit other = new Audit();
        other.kept.addAll(kept);
        other.kept.add(latestQuestion);
        other.renew();
        return other;
    }

    private void renew() {
        real = new DiceAudit();
        calls = 0;
        for (Consumer<DiceAudit> call : kept) {
            count();
            try {
                call.accept(real);
            } catch (RuntimeException thrown) {
                // It was thrown, and looked at, when the call was made for the first time.
            }
        }
    }

    private void count() {
        calls++;
        if (calls > PROMISED_CALLS) {
            throw new AssertionError("a test has more than " + PROMISED_CALLS + " calls that are no questions");
        }
    }

    private void countNext() {
        if (calls == PROMISED_CALLS) {
            renew();
        }
        count();
    }

    private <T> T ask(Function<DiceAudit, T> question) {
        countNext();
        latestQuestion = question::apply;
        return question.apply(real);
    }

    private int change(ToIntFunction<DiceAudit> change) {
        countNext();
        latestQuestion = x -> { };
        kept.add(change::applyAsInt);
        return change.applyAsInt(real);
    }

    int appendInput(int a, int b, int c, int d, int e) {
        return change(x -> x.appendInput(a, b, c, d, e));
    }

    int truncateInput(int length) {
        return change(x -> x.truncateInput(length));
    }

    int load() {
        return change(DiceAudit::load);
    }

    int errorCode() {
        return ask(DiceAudit::errorCode);
    }

    int errorPosition() {
        return ask(DiceAudit::errorPosition);
    }

    int seed() {
        return ask(DiceAudit::seed);
    }

    int minimum() {
        return ask(DiceAudit::minimum);
    }

    int threshold() {
        return ask(DiceAudit::threshold);
    }

    int dieCount() {
        return ask(DiceAudit::dieCount);
    }

    int playerCount() {
        return ask(DiceAudit::playerCount);
    }

    int throwCount() {
        return ask(DiceAudit::throwCount);
    }

    int faces(int die) {
        return ask(x -> x.faces(die));
    }

    int weightOf(int die, int face) {
        return ask(x -> x.weightOf(die, face));
    }

    boolean isBalanced(int die) {
        return ask(x -> x.isBalanced(die));
    }

    int heaviestFace(int die) {
        return ask(x -> x.heaviestFace(die));
    }

    int nameByte(int player, int position) {
        return ask(x -> x.nameByte(player, position));
    }

    int playerAt(int index) {
        return ask(x -> x.playerAt(index));
    }

    int dieAt(int index) {
        return ask(x -> x.dieAt(index));
    }

    int faceAt(int index) {
        return ask(x -> x.faceAt(index));
    }

    boolean isFairAt(int index) {
        return ask(x -> x.isFairAt(index));
    }

    int throwsOf(int player) {
        return ask(x -> x.throwsOf(player));
    }

    int total(int player) {
        return ask(x -> x.total(player));
    }

    double meanFace(int player) {
        return ask(x -> x.meanFace(player));
    }

    int rankOf(int player) {
        return ask(x -> x.rankOf(player));
    }

    int playerWithRank(int rank) {
        return ask(x -> x.playerWithRank(rank));
    }

    int longestRun(int player) {
        return ask(x -> x.longestRun(player));
    }

    int findPlayer() {
        return ask(DiceAudit::findPlayer);
    }

    int throwsOfPair(int player, int die) {
        return ask(x -> x.throwsOfPair(player, die));
    }

    int frequency(int player, int die, int face) {
        return ask(x -> x.frequency(player, die, face));
    }

    int commonFace(int player, int die) {
        return ask(x -> x.commonFace(player, die));
    }

    int facesSeen(int player, int die) {
        return ask(x -> x.facesSeen(player, die));
    }

    int latestThrow(int player, int die) {
        return ask(x -> x.latestThrow(player, die));
    }

    int score(int player, int die) {
        return ask(x -> x.score(player, die));
    }

    boolean isSuspicious(int player, int die) {
        return ask(x -> x.isSuspicious(player, die));
    }

    int suspiciousPairs() {
        return ask(DiceAudit::suspiciousPairs);
    }

    int worstPair() {
        return ask(DiceAudit::worstPair);
    }

    int offenceCount() {
        return ask(DiceAudit::offenceCount);
    }

    int offencePlayer(int rank) {
        return ask(x -> x.offencePlayer(rank));
    }

    int offenceDie(int rank) {
        return ask(x -> x.offenceDie(rank));
    }

    int offenceScore(int rank) {
        return ask(x -> x.offenceScore(rank));
    }

    int offencesOf(int player) {
        return ask(x -> x.offencesOf(player));
    }

    int nextFace(int die) {
        return ask(x -> x.nextFace(die));
    }

    int faceAfter(int die, int count) {
        return ask(x -> x.faceAfter(die, count));
    }

    int throwsUntil(int die, int face) {
        return ask(x -> x.throwsUntil(die, face));
    }

    int scoreAfter(int player, int die, int count) {
        return ask(x -> x.scoreAfter(player, die, count));
    }

    int throwsUntilSuspicious(int player, int die) {
        return ask(x -> x.throwsUntilSuspicious(player, die));
    }

    int penanceNow() {
        return ask(DiceAudit::penanceNow);
    }

    int frequencyDifference() {
        return ask(DiceAudit::frequencyDifference);
    }

    int totalDifference() {
        return ask(DiceAudit::totalDifference);
    }

    float fairShare() {
        return ask(DiceAudit::fairShare);
    }

    int throwDie(int player, int die, int count) {
        return change(x -> x.throwDie(player, die, count));
    }

    int audit() {
        return change(DiceAudit::audit);
    }

    int absolve() {
        return change(DiceAudit::absolve);
    }

    int forgive(int player) {
        return change(x -> x.forgive(player));
    }

    int setWeight(int die, int face, int weight) {
        return change(x -> x.setWeight(die, face, weight));
    }

    int setSeed(int seed) {
        return change(x -> x.setSeed(seed));
    }

    int setLimits(int minimum, int threshold) {
        return change(x -> x.setLimits(minimum, threshold));
    }

    int writeRecords() {
        return change(DiceAudit::writeRecords);
    }

    int writeFaces(int player) {
        return change(x -> x.writeFaces(player));
    }

    int outputByte(int position) {
        return ask(x -> x.outputByte(position));
    }

    int save(int slot) {
        return change(x -> x.save(slot));
    }

    int restore(int slot) {
        return change(x -> x.restore(slot));
    }

    int undo() {
        return change(DiceAudit::undo);
    }

    int undoDepth() {
        return ask(DiceAudit::undoDepth);
    }
}
