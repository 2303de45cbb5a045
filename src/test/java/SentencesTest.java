import java.nio.file.DirectoryStream;
import java.nio.file.Files;
import java.nio.file.Path;
import java.util.regex.Matcher;
import java.util.regex.Pattern;

/** Each word of the document's Terms and promises stands in a sentence that a test says it is about: Due.says. */
final class SentencesTest {
    private static final Pattern SAYS =
        Pattern.compile("\\bsays\\((\\d+),\\s*((?:\"(?:[^\"\\\\]|\\\\.)*\"[\\s+]*)+)\\)");
    private static final Pattern LITERAL = Pattern.compile("\"((?:[^\"\\\\]|\\\\.)*)\"");
    private static final Pattern WORD = Pattern.compile("[A-Za-z0-9]+");

    public static void main(String[] args) throws Exception {
        boolean[][] said = new boolean[Doc.PROMISES + 1][];
        for (int i = 0; i < said.length; i++) {
            said[i] = new boolean[Doc.section(i).length()];
        }
        try (DirectoryStream<Path> files = Files.newDirectoryStream(Path.of("src/test/java"), "*Test.java")) {
            for (Path file : files) {
                mark(Files.readString(file), said);
            }
        }
        int missing = 0;
        for (int i = 0; i < said.length; i++) {
            missing += missing(i, said[i]);
        }
        System.out.println(missing == 0 ? "each word is said" : missing + " words are said nowhere");
        if (missing != 0) {
            System.exit(1);
        }
    }

    private static void mark(String source, boolean[][] said) {
        Matcher call = SAYS.matcher(source);
        while (call.find()) {
            StringBuilder words = new StringBuilder();
            Matcher literal = LITERAL.matcher(call.group(2));
            while (literal.find()) {
                words.append(literal.group(1));
            }
            int promise = Integer.parseInt(call.group(1));
            String plain = Doc.plain(words.toString());
            int from = Doc.section(promise).indexOf(plain);
            for (int i = 0; from >= 0 && i < plain.length(); i++) {
                said[promise][from + i] = true;
            }
        }
    }

    private static int missing(int promise, boolean[] said) {
        int missing = 0;
        Matcher word = WORD.matcher(Doc.section(promise));
        while (word.find()) {
            if (!said[word.start()]) {
                missing++;
                System.out.println((promise == Doc.TERMS ? "Terms" : "Promise " + promise) + ", at " + word.start() + ": "
                    + word.group());
            }
        }
        return missing;
    }
}
