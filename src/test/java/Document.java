import java.io.IOException;
import java.nio.file.Files;
import java.nio.file.Path;
import java.util.Set;
import java.util.TreeSet;

/** The document's own sentences: what a test quotes must stand there, and each promise must be quoted. */
final class Document {
    private static final Path PAGE = Path.of("../shared/DOC.md");

    private final Checks checks;
    private final String text;
    private final Set<Integer> quoted = new TreeSet<>();

    Document(Checks checks) throws IOException {
        this.checks = checks;
        text = Files.readString(PAGE).replaceAll("\\s+", " ");
    }

    /** A sentence ahead of the promises: most are of the Terms. */
    Run says(String sentence) {
        checks.that("the document says: " + sentence, partOf("# FoldDye", "## Promise 1:").contains(sentence));
        return new Run(checks, sentence);
    }

    Run promises(int number, String sentence) {
        quoted.add(number);
        String next = number < 26 ? "## Promise " + (number + 1) + ":" : "## Not promised";
        checks.that("promise " + number + " says: " + sentence,
            partOf("## Promise " + number + ":", next).contains(sentence));
        return new Run(checks, sentence);
    }

    void quotesAll(int from, int to) {
        for (int number = from; number <= to; number++) {
            checks.that("promise " + number + " is quoted", quoted.contains(number));
        }
    }

    private String partOf(String from, String to) {
        int start = text.indexOf(from);
        int end = text.indexOf(to);
        return start < 0 || end < start ? "" : text.substring(start, end);
    }
}
