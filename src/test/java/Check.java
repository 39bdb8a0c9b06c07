import java.io.IOException;
import java.io.UncheckedIOException;
import java.nio.file.Files;
import java.nio.file.Path;

/** What every test of the project uses: compare answers, tell the wrong ones, end with exit code 1 if there was one. */
final class Check {
    private static final Path DOCUMENT = Path.of("../shared/DOC.md");

    private static int asked = 0;
    private static int wrong = 0;
    private static String document = null;
    private static String sentence = "";

    private Check() {
    }

    /** The words of the document that the next answers are held against; words it does not have are wrong. */
    static void says(String words) {
        sentence = "";
        due("the document has \"" + words + "\"", document().contains(words) ? 1 : 0, 1);
        sentence = "\"" + words + "\": ";
    }

    /** All of it, with one blank wherever there are blanks or line ends. */
    static String document() {
        if (document != null) return document;
        try {
            document = Files.readString(DOCUMENT).replaceAll("\\s+", " ");
        } catch (IOException e) {
            throw new UncheckedIOException(e);
        }
        return document;
    }

    static void due(String call, long got, long want) {
        asked++;
        if (got == want) return;
        wrong++;
        System.out.println(sentence + call + " answered " + got + ", due is " + want);
    }

    static void holds(String what, boolean is) {
        due(what, is ? 1 : 0, 1);
    }

    static void end() {
        System.out.println(asked + " answers, " + wrong + " of them wrong");
        if (wrong != 0) System.exit(1);
    }

    /** Types a text of any length, eight bytes a call; the last answer. */
    static int type(EarthBanks banks, String text) {
        int answer = banks.count(7);
        for (int from = 0; from < text.length(); from += 8) {
            int to = Math.min(text.length(), from + 8);
            answer = banks.type(bytes(text, from, to), to - from);
        }
        return answer;
    }

    static long bytes(String text, int from, int to) {
        long bytes = 0;
        for (int i = from; i < to; i++) bytes = bytes << 8 | text.charAt(i) & 255;
        return bytes;
    }

    static int dam(EarthBanks banks, String text) {
        type(banks, text);
        return banks.dam();
    }

    static EarthBanks damOf(String text) {
        EarthBanks banks = new EarthBanks();
        int earth = dam(banks, text);
        if (earth < 0) due("dam() of \"" + text + "\"", earth, 0);
        return banks;
    }
}
