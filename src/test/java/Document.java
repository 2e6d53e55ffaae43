import java.io.IOException;
import java.io.UncheckedIOException;
import java.nio.file.Files;
import java.nio.file.Path;
import java.util.ArrayList;
import java.util.List;

/** The words of ../shared/DOC.md, so that a test can name the sentence it stands for. */
final class Document {
    /** Not a promise: what stands ahead of the first one. */
    static final int TERMS = 0;
    private static final Path FILE = Path.of("..", "shared", "DOC.md");

    private static String words = null;

    private Document() {
    }

    static boolean says(int promise, String sentence) {
        return section(promise).contains(sentence);
    }

    /** The public face as the document writes it, a line each, without its braces. */
    static List<String> face() {
        String begin = "```java\n";
        int from = words().indexOf(begin, words().indexOf("## The public face")) + begin.length();
        List<String> lines = new ArrayList<>();
        for (String line : words().substring(from, words().indexOf("```", from)).split("\n")) {
            String inside = line.replace("{", "").replace("}", "").trim();
            if (!inside.isEmpty()) {
                lines.add(inside);
            }
        }
        return lines;
    }

    private static String section(int promise) {
        String from = promise == TERMS ? "## What it is" : "## Promise " + promise + ":";
        int begin = words().indexOf(from);
        int end = words().indexOf(promise == TERMS ? "## Promise 1:" : "## ", begin + from.length());
        return begin < 0 || end < 0 ? "" : words().substring(begin, end);
    }

    private static String words() {
        if (words == null) {
            try {
                words = Files.readString(FILE);
            } catch (IOException e) {
                throw new UncheckedIOException(e);
            }
        }
        return words;
    }
}
