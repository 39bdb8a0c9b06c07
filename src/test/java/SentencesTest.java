import java.io.IOException;
import java.nio.file.Files;
import java.nio.file.Path;
import java.util.ArrayList;
import java.util.Arrays;
import java.util.List;
import java.util.regex.Matcher;
import java.util.regex.Pattern;

/**
 * All words of 'Terms' and of the promises stand in a test (Check.says): none is left without one. To be run in the
 * project's own directory.
 */
public final class SentencesTest {
    private static final Path TESTS = Path.of("src/test/java");
    private static final Pattern QUOTED = Pattern.compile("(?:says|new Number)\\(\\s*\"((?:[^\"\\\\]|\\\\.)*)\"");
    /** Headings, signatures and marks of the document, which promise nothing that FaceTest does not hold. */
    private static final Pattern NO_SENTENCE = Pattern.compile(
        "## \\w+( \\d+: (A new object|\\w+))?|`\\w+ \\w+\\([^)]*\\)`:|```(text)?|======== \\d|Ahead of the calls [^.]*?---- [a-z, ]+\\.");

    public static void main(String[] args) throws IOException {
        String document = Check.document();
        boolean[] held = new boolean[document.length()];
        for (String words : quotes()) mark(document, words, held);
        Matcher marks = NO_SENTENCE.matcher(document);
        while (marks.find()) Arrays.fill(held, marks.start(), marks.end(), true);
        int from = document.indexOf("## Terms");
        int to = document.indexOf("## Not promised");
        Check.holds("the document has its parts", from > 0 && to > from);
        tellWhatIsLeft(document, from, to, held);
        Check.end();
    }

    private static List<String> quotes() throws IOException {
        List<String> quotes = new ArrayList<>();
        try (var files = Files.list(TESTS)) {
            for (Path file : files.sorted().toList()) {
                Matcher matcher = QUOTED.matcher(Files.readString(file));
                while (matcher.find()) quotes.add(matcher.group(1).replace("\\\"", "\""));
            }
        }
        return quotes;
    }

    private static void mark(String document, String words, boolean[] held) {
        for (int at = document.indexOf(words); at >= 0; at = document.indexOf(words, at + 1)) {
            Arrays.fill(held, at, at + words.length(), true);
        }
    }

    private static void tellWhatIsLeft(String document, int from, int to, boolean[] held) {
        StringBuilder left = new StringBuilder();
        for (int at = from; at <= to; at++) {
            if (at < to && !held[at]) {
                left.append(document.charAt(at));
                continue;
            }
            // Blanks and points between two quotes say nothing.
            boolean says = left.toString().matches(".*[A-Za-z0-9].*");
            Check.holds("no test has the words \"" + left.toString().trim() + "\"", !says);
            left.setLength(0);
        }
    }
}
