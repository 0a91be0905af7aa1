import java.io.IOException;
import java.nio.file.Files;
import java.nio.file.Path;
import java.util.ArrayList;
import java.util.List;
import java.util.Map;
import java.util.TreeMap;

/**
 * A sentence of the document, quoted by the test that shows that it holds. What is quoted must stand
 * in the document, and in the end each of its sentences that promises something must have been quoted.
 */
final class Sentence {
    /** The tests are run from the project's own directory, as .ci/run does. */
    private static final Path DOCUMENT = Path.of("../shared/DOC.md");
    private static final int TERMS = 0;
    private static final int PROMISES = 40;
    /** The paragraphs of the terms under 0, and those of each promise under its number. */
    private static final Map<Integer, List<String>> PARTS = read();
    private static final Map<Integer, List<String>> QUOTED = new TreeMap<>();

    interface Of {
        Object answer(int number);
    }

    private final String label;

    private Sentence(String label) {
        this.label = label;
    }

    /** A sentence of a promise, or of the terms if that is 0. */
    static Sentence of(int promise, String words) {
        String label = (promise == TERMS ? "terms" : String.valueOf(promise)) + ": " + words;
        QUOTED.computeIfAbsent(promise, p -> new ArrayList<>()).add(words);
        if (Files.exists(DOCUMENT)) {
            Check.is(label + " (is a sentence of the document)", true,
                () -> PARTS.get(promise).stream().anyMatch(part -> part.contains(words)));
        }
        return new Sentence(label);
    }

    static Sentence terms(String words) {
        return of(TERMS, words);
    }

    Sentence is(Object due, Check.Call call) {
        Check.is(label, due, call);
        return this;
    }

    /** The same answer is due for each of some numbers. */
    Sentence each(Object due, int[] numbers, Of call) {
        for (int number : numbers) {
            Check.is(label + " [" + number + "]", due, () -> call.answer(number));
        }
        return this;
    }

    Sentence index(Check.Call call) {
        return is(IndexOutOfBoundsException.class, call);
    }

    Sentence index(int[] numbers, Of call) {
        return each(IndexOutOfBoundsException.class, numbers, call);
    }

    Sentence argument(Check.Call call) {
        return is(IllegalArgumentException.class, call);
    }

    Sentence argument(int[] numbers, Of call) {
        return each(IllegalArgumentException.class, numbers, call);
    }

    Sentence unsupported(Check.Call call) {
        return is(UnsupportedOperationException.class, call);
    }

    Sentence state(Check.Call call) {
        return is(IllegalStateException.class, call);
    }

    Sentence noElement(Check.Call call) {
        return is(java.util.NoSuchElementException.class, call);
    }

    Sentence arithmetic(Check.Call call) {
        return is(ArithmeticException.class, call);
    }

    /** The numbers just outside a range, and the farthest ones. */
    static int[] outside(int least, int most) {
        return new int[] {least - 1, most + 1, Integer.MIN_VALUE, Integer.MAX_VALUE, least - 256, most + 256};
    }

    private static Map<Integer, List<String>> read() {
        Map<Integer, List<String>> parts = new TreeMap<>();
        for (int i = TERMS; i <= PROMISES; i++) {
            parts.put(i, new ArrayList<>());
        }
        int part = -1;
        for (String paragraph : text().split("\n\n|\n(?=- )|(?<=</h2>)\n")) {
            String words = paragraph.replaceAll("<h2>.*?</h2>", "").replaceAll("\\s+", " ").trim();
            if (words.startsWith("#")) {
                part = words.startsWith("## Promise ") ? Integer.parseInt(words.split("[ :]")[2])
                    : words.equals("## What it is") || words.equals("## Terms") ? TERMS : -1;
            } else if (part >= TERMS && !words.isEmpty()) {
                parts.get(part).add(words);
            }
        }
        return parts;
    }

    /** Without the document the answers are still asked for; only the quotes are not compared. */
    private static String text() {
        try {
            return Files.readString(DOCUMENT).replace("\r", "");
        } catch (IOException e) {
            System.out.println("the document is not at " + DOCUMENT + ": quotes are not compared with it");
            return "";
        }
    }

    /** Each Returns and Throws, each range of a parameter, and each sentence of the terms has a test. */
    static void allAreQuoted() {
        PARTS.forEach((part, paragraphs) -> paragraphs.forEach(paragraph -> {
            if (part == TERMS) {
                for (String sentence : paragraph.split("(?<=[.;]) ")) {
                    isQuoted(part, sentence);
                }
            } else if (paragraph.matches("(Returns|Throws) .*|- .*\\d.*")) {
                isQuoted(part, paragraph);
            }
        }));
    }

    private static void isQuoted(int part, String sentence) {
        String bare = sentence.replaceAll("[.;]$", "");
        Check.is("a test quotes " + part + ": " + sentence, true, () -> QUOTED.getOrDefault(part, List.of()).stream()
            .anyMatch(quote -> quote.contains(bare) || bare.contains(quote)));
    }
}
