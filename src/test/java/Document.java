import java.io.IOException;
import java.nio.file.Files;
import java.nio.file.Path;

/** The document's own words, so that a test that quotes a sentence which isn't there is told. */
final class Document {
    static final int TERMS = 0;
    static final int AHEAD_OF_TERMS = -1;
    static final int BEHIND_PROMISES = -2;

    private static final Path FILE = Path.of("..", "shared", "DOC.md");

    private Document() {
    }

    /** Whether a section (the number of a promise, or one of the above) has a quote; true without the document. */
    static boolean has(int section, String quote) {
        if (!Files.isReadable(FILE)) {
            return true;
        }
        try {
            return squeezed(section(Files.readString(FILE), section)).contains(squeezed(quote));
        } catch (IOException e) {
            return false;
        }
    }

    private static String section(String text, int section) {
        String heading = section == TERMS ? "## Terms" : section == AHEAD_OF_TERMS ? "# WaxTurns"
            : section == BEHIND_PROMISES ? "## Not promised" : "## Promise " + section + ":";
        int from = text.indexOf(heading);
        if (from < 0) {
            return "";
        }
        int to = text.indexOf(section == AHEAD_OF_TERMS ? "\n## Terms" : "\n## ", from + 1);
        return text.substring(from, to < 0 ? text.length() : to);
    }

    private static String squeezed(String text) {
        return text.replaceAll("\\s+", " ");
    }
}
