import java.io.IOException;
import java.nio.file.Files;
import java.nio.file.Path;
import java.util.Arrays;
import java.util.LinkedHashMap;
import java.util.LinkedHashSet;
import java.util.List;
import java.util.Map;
import java.util.Set;

/** The sentences of the document: each test names one of them, and each of them has to have a test. */
final class Doc {
    private static final Path FILE = Path.of("../shared/DOC.md");
    /** Heads of lists, and words that only say what the words of other sentences mean. */
    private static final Set<String> NOTHING_TO_TEST = Set.of(
        "To throw a die is to do the following.", "A pair is a player and a die.", "An offence is a pair with a score.",
        "Let n be the number of throws of a pair in the record, and s the number of faces of the die.",
        "The statements are:", "The error codes are:", "`die`: a die", "`player`: a player");

    private static final Map<String, Set<String>> sentences = new LinkedHashMap<>();
    private static final Map<String, Set<String>> tested = new LinkedHashMap<>();
    private static String head = "";

    private Doc() {
    }

    /** None if the document is not there. */
    static List<String> lines() throws IOException {
        return Files.exists(FILE) ? Files.readAllLines(FILE) : List.of();
    }

    /** What stands on both sides of a semicolon are two sentences here: each has a test of its own. */
    static void read() throws IOException {
        if (!Files.exists(FILE)) {
            System.out.println("no " + FILE + ": the sentences of the tests are not compared with it");
        }
        String part = "";
        for (String line : lines()) {
            if (line.startsWith("## ")) {
                part = line.matches("## (Promise \\d+:.*|Terms)") ? line.substring(3).replaceFirst(":.*", "") : "";
                promiseOrTerms(part);
            } else if (part.equals("Terms") && line.matches("[1-6]\\. .*")) {
                promiseOrTerms("Terms " + line.charAt(0));
            } else if (!part.isEmpty() && !line.isBlank() && !line.startsWith("```")) {
                String text = line.strip().replaceFirst("^`[^`]*\\(.*?`: ", "").replaceFirst("^- ", "").replaceAll("\\s+", " ");
                sentences.computeIfAbsent(head, key -> new LinkedHashSet<>())
                    .addAll(Arrays.asList(text.split("(?<=\\.) (?=[A-Z])|\\s?; ")));
            }
        }
    }

    private static void promiseOrTerms(String newHead) {
        head = newHead;
        tested.putIfAbsent(head, new LinkedHashSet<>());
    }

    static void promise(int number) {
        promiseOrTerms("Promise " + number);
    }

    static void terms(int section) {
        promiseOrTerms("Terms " + section);
    }

    /** Runs the test of a sentence that stands under the head that was named last. */
    static void says(String sentence, Runnable test) {
        Check.begin(head + ": " + sentence);
        if (!sentences.isEmpty() && !sentences.getOrDefault(head, Set.of()).contains(sentence)) {
            Check.report("the document", "not to say this", "this sentence");
        }
        tested.get(head).add(sentence);
        int before = Check.made();
        try {
            test.run();
        } catch (RuntimeException thrown) {
            Check.report("the test", thrown, "nothing to be thrown");
        }
        if (Check.made() == before) {
            Check.report("the test", "nothing", "an answer");
        }
    }

    static void requireAllTested() {
        sentences.forEach((part, all) -> {
            for (String sentence : all) {
                if (!tested.get(part).contains(sentence) && !NOTHING_TO_TEST.contains(sentence)) {
                    Check.begin(part + ": " + sentence);
                    Check.report("the tests", "nothing", "a test of this sentence");
                }
            }
        });
    }
}
