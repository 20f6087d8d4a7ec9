import java.io.IOException;
import java.nio.file.Files;
import java.nio.file.Path;
import java.util.BitSet;

/** The document's own sentences: what a test quotes must stand there, and all that stands there must be quoted. */
final class Document {
    private static final Path PAGE = Path.of("../shared/DOC.md");
    private static final String FIRST_PROMISE = "## Promise 1:";

    private final Checks checks;
    private final String text;
    private final BitSet quoted = new BitSet();

    Document(Checks checks) throws IOException {
        this.checks = checks;
        text = withoutSigns(Files.readString(PAGE));
    }

    /** Headings of parts and the page's own signs say nothing of a call; what is not promised needs no test. */
    private static String withoutSigns(String page) {
        int end = page.indexOf("## Not promised");
        return (end < 0 ? page : page.substring(0, end))
            .replaceAll("(?m)^(# .*|## (?!Promise ).*|```\\w*)$", " ")
            .replaceAll("={8} \\d ", " ")
            .replaceAll("\\s+", " ");
    }

    /** A sentence ahead of the promises: most are of the Terms. */
    Run says(String sentence) {
        quote(sentence, 0, text.indexOf(FIRST_PROMISE));
        return new Run(checks, sentence);
    }

    Run promises(int number, String sentence) {
        int end = text.indexOf("## Promise " + (number + 1) + ":");
        quote(sentence, text.indexOf("## Promise " + number + ":"), end < 0 ? text.length() : end);
        return new Run(checks, sentence);
    }

    private void quote(String sentence, int from, int to) {
        int start = from < 0 ? -1 : text.indexOf(sentence, from);
        boolean stands = start >= 0 && start + sentence.length() <= to;
        checks.that("the document says there: " + sentence, stands);
        if (stands) {
            quoted.set(start, start + sentence.length());
        }
    }

    void isQuotedWhole() {
        int start = quoted.nextClearBit(0);
        while (start < text.length()) {
            int next = quoted.nextSetBit(start);
            int end = next < 0 ? text.length() : next;
            String left = text.substring(start, end);
            checks.that("a test quotes: " + left, !left.matches(".*[A-Za-z0-9].*"));
            start = quoted.nextClearBit(end);
        }
    }
}
