import java.io.IOException;
import java.io.UncheckedIOException;
import java.nio.file.Files;
import java.nio.file.Path;

/** The words of ../shared/DOC.md, so that a test can say which of them it is about. */
final class Doc {
    static final int TERMS = 0;
    static final int PROMISES = 46;
    private static final String WHOLE = read();

    private Doc() {
    }

    private static String read() {
        try {
            return Files.readString(Path.of("../shared/DOC.md"));
        } catch (IOException e) {
            throw new UncheckedIOException(e);
        }
    }

    /** With one blank wherever there are blanks or ends of lines. */
    static String plain(String words) {
        return words.replaceAll("\\s+", " ").trim();
    }

    /** The words of "Terms" (0), or of a promise, without headings, marks of blocks and a promise's face. */
    static String section(int promise) {
        String head = promise == TERMS ? "## Terms\n" : "## Promise " + promise + ":";
        int from = WHOLE.indexOf('\n', WHOLE.indexOf(head)) + 1;
        String words = WHOLE.substring(from, WHOLE.indexOf("\n## ", from));
        words = words.replaceAll("(?m)^Ahead of the calls .*$", "").replaceAll("(?m)^```\\w*$", "");
        return plain(words.replaceAll("(?m)^`[^`]*`:", ""));
    }
}
