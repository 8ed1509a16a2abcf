import java.io.IOException;
import java.nio.file.Files;
import java.nio.file.Path;
import java.util.LinkedHashMap;
import java.util.Map;
import java.util.TreeSet;
import java.util.Set;

/**
 * The document's sentences that name a boundary case, each with a test of its own.
 *
 * The words are looked up in the document, so that no test can stand for a sentence that is not there.
 */
final class Sentences {
    private static final Path DOCUMENT = Path.of("..", "shared", "DOC.md");

    private final Map<String, String> textUnder = new LinkedHashMap<>();
    private final Set<String> tested = new TreeSet<>();
    private final Checks checks;

    Sentences(Checks checks) {
        this.checks = checks;
        try {
            read(Files.readString(DOCUMENT));
        } catch (IOException e) {
            throw new IllegalStateException("the document can't be read: " + e);
        }
    }

    private void read(String document) {
        for (String part : document.split("(?m)^## ")) {
            int end = part.indexOf('\n');
            textUnder.put(part.substring(0, end).trim(), inOneLine(part.substring(end)));
        }
    }

    private static String inOneLine(String text) {
        return text.replaceAll("\\s+", " ").trim();
    }

    /** The words under this heading hold: this test, which must check something, says so. */
    void holds(String heading, String words, Runnable test) {
        checks.about(heading + ", '" + words + "'");
        String text = textUnder.getOrDefault(heading, "");
        checks.same("the document has these words", text.contains(inOneLine(words)), true);
        int before = checks.made();
        test.run();
        checks.same("the test checks something", checks.made() > before, true);
        checks.about("");
        tested.add(heading);
    }

    /** No promise of the document, nor the terms, may be without a sentence that is tested. */
    void everyPromiseIsTested() {
        int promises = 0;
        for (String heading : textUnder.keySet()) {
            if (heading.startsWith("Promise ") || heading.equals("Terms")) {
                promises++;
                checks.same("a boundary case is tested under " + heading, tested.contains(heading), true);
            }
        }
        checks.same("promises, and the terms", promises, 20);
    }
}
