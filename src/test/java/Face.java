import java.io.IOException;
import java.nio.file.Files;
import java.nio.file.Path;
import java.util.ArrayList;
import java.util.List;
import java.util.regex.Matcher;
import java.util.regex.Pattern;

/** The public lines of the source, word for word the document's: its face, and the heading of each promise. */
final class Face {
    private static final Path SOURCE = Path.of("src/main/java/FoldDye.java");
    private static final Pattern MEMBER = Pattern.compile("(?m)^ +(public .*?)(?: \\{|;)$");
    private static final Pattern METHOD = Pattern.compile("public (int (\\w+)\\(.*\\));");

    static void all(Document document) throws IOException {
        String source = Files.readString(SOURCE);
        List<String> members = members(source);
        document.says("public final class FoldDye { " + String.join(" ", members) + " }");
        document.promises(1, "## Promise 1: A new object `FoldDye()`:");
        int number = 1;
        for (String member : members) {
            Matcher method = METHOD.matcher(member);
            if (method.matches()) {
                number++;
                document.promises(number, "## Promise " + number + ": " + method.group(2) + " `" + method.group(1) + "`:");
            }
        }
        wishes(document, source);
    }

    private static List<String> members(String source) {
        List<String> members = new ArrayList<>();
        Matcher member = MEMBER.matcher(source);
        while (member.find()) {
            members.add(member.group(1) + ";");
        }
        return members;
    }

    private static void wishes(Document document, String source) {
        String line = "---- wishes";
        List<String> calls = new ArrayList<>();
        for (String member : members(source.substring(Math.max(0, source.indexOf(line))))) {
            Matcher method = METHOD.matcher(member);
            calls.add(method.matches() ? "`" + method.group(2) + "`" : member);
        }
        document.says("Ahead of the calls " + String.join(", ", calls) + " the interface says: " + line + ".");
    }
}
