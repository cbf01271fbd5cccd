import java.io.IOException;
import java.io.UncheckedIOException;
import java.nio.file.Files;
import java.nio.file.Path;
import java.util.BitSet;
import java.util.HashMap;
import java.util.LinkedHashMap;
import java.util.Map;

/**
 * One sentence of the document after another, each with a test of its own. What is quoted must stand under the heading
 * told, and all that stands there must be quoted: so no sentence is left out unseen, and none that is changed stays
 * with its old test.
 */
final class Sentences {
    private static final Path DOCUMENT = Path.of("../shared/DOC.md");

    private final Map<String, String> asWritten = new LinkedHashMap<>();
    private final Map<String, String> texts = new HashMap<>();
    private final Map<String, BitSet> quoted = new LinkedHashMap<>();
    private String heading = "";

    Sentences() {
        if (!Files.exists(DOCUMENT)) {
            System.out.println("no document at " + DOCUMENT + ": the tests run, their quotes are not looked up");
            return;
        }
        try {
            for (String part : Files.readString(DOCUMENT).split("(?m)^## ")) {
                String[] two = part.split("\n", 2);
                asWritten.put(two[0].trim(), two.length == 2 ? two[1] : "");
                texts.put(two[0].trim(), folded(asWritten.get(two[0].trim())));
            }
        } catch (IOException e) {
            throw new UncheckedIOException(e);
        }
    }

    /** Without fences, and without the line of a call, which the test of the face looks at. */
    private static String folded(String text) {
        return text.replaceAll("(?m)^```.*$", " ").replaceAll("\\s+", " ").trim().replaceFirst("^`[^`]*`: ", "");
    }

    /** What stands under each heading, in the document's order, line by line; nothing, if there is no document. */
    Map<String, String> asWritten() {
        return asWritten;
    }

    /** What is quoted from now on stands under this heading. */
    void under(String newHeading) {
        heading = newHeading;
        quoted.putIfAbsent(heading, new BitSet());
        Due.by("");
        Due.holds("the document has the heading " + heading, texts.isEmpty() || texts.containsKey(heading));
    }

    void test(String words, Runnable test) {
        quote(words);
        Due.by(words);
        int before = Due.looked();
        test.run();
        Due.holds("a test of its own", Due.looked() > before);
        Due.by("");
    }

    /** Words that tell of no call's answer. */
    void nothingToTest(String words) {
        quote(words);
    }

    private void quote(String words) {
        String text = texts.get(heading);
        if (text == null) {
            return;
        }
        int start = text.indexOf(words);
        Due.holds("under " + heading + " stands: " + words, start >= 0);
        if (start >= 0) {
            quoted.get(heading).set(start, start + words.length());
        }
    }

    /** Of headings that begin so none may be left out. */
    void allUnder(String start) {
        for (String one : texts.keySet()) {
            Due.holds("tests for what stands under " + one, !one.startsWith(start) || quoted.containsKey(one));
        }
    }

    void end(String test) {
        for (Map.Entry<String, BitSet> one : quoted.entrySet()) {
            String text = texts.getOrDefault(one.getKey(), "");
            StringBuilder left = new StringBuilder();
            for (int k = 0; k < text.length(); k++) {
                left.append(one.getValue().get(k) ? ' ' : text.charAt(k));
            }
            String words = left.toString().trim();
            Due.holds("under " + one.getKey() + " nothing is left without a test: " + words, words.isEmpty());
        }
        Due.end(test);
    }
}
