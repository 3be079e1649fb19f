import java.io.IOException;
import java.io.UncheckedIOException;
import java.nio.file.Files;
import java.nio.file.Path;
import java.util.HashMap;
import java.util.Map;
import java.util.regex.Matcher;
import java.util.regex.Pattern;

/** The document by its parts: "I" to "VI" of the Terms, "1" to "31" of the promises, and its other headings as they are. */
final class Document {
    private static final Path FILE = Path.of("../shared/DOC.md");
    private static final Pattern HEAD = Pattern.compile("(?:## Promise )?([0-9]+|[IV]+|The constants)[.:] .*|## (.*)");
    private static final Map<String, String> PARTS = parts();

    private Document() {
    }

    /** Where the document isn't at hand, its words can't be compared; the answers still are. */
    static boolean says(String part, String words) {
        return PARTS.isEmpty() || PARTS.getOrDefault(part, "").contains(words);
    }

    private static Map<String, String> parts() {
        Map<String, String> parts = new HashMap<>();
        if (!Files.exists(FILE)) {
            System.out.println("no " + FILE + ": the words beside the tests aren't compared with it");
            return parts;
        }
        String part = "";
        for (String line : text().split("\n")) {
            Matcher head = HEAD.matcher(line);
            if (head.lookingAt()) {
                part = head.group(1) != null ? head.group(1) : head.group(2);
            }
            parts.merge(part, line, (before, more) -> before + "\n" + more);
        }
        return parts;
    }

    private static String text() {
        try {
            return Files.readString(FILE);
        } catch (IOException missing) {
            throw new UncheckedIOException(missing);
        }
    }
}
