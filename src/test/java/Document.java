import java.io.IOException;
import java.io.UncheckedIOException;
import java.nio.file.Files;
import java.nio.file.Path;

/** The words of ../shared/DOC.md, so that a test can name the sentence it stands for. */
final class Document {
    /** Not a promise: what stands ahead of the first one. */
    static final int TERMS = 0;
    private static final Path FILE = Path.of("..", "shared", "DOC.md");

    private static String words = null;

    private Document() {
    }

    static boolean says(int promise, String sentence) {
        return section(promise).contains(sentence);
    }

    private static String section(int promise) {
        String from = promise == TERMS ? "## What it is" : "## Promise " + promise + ":";
        int begin = words().indexOf(from);
        int end = words().indexOf(promise == TERMS ? "## Promise 1:" : "## ", begin + from.length());
        return begin < 0 || end < 0 ? "" : words().substring(begin, end);
    }

    private static String words() {
        if (words == null) {
            try {
                words = Files.readString(FILE);
            } catch (IOException e) {
                throw new UncheckedIOException(e);
            }
        }
        return words;
    }
}
