import java.io.IOException;
import java.lang.reflect.Method;
import java.lang.reflect.Modifier;
import java.nio.file.Files;
import java.nio.file.Path;

/** What README.md shows of the class is what it answers; to be run in the project's own directory. */
public final class ReadmeTest {
    private static final Path README = Path.of("README.md");
    private static String text = "";

    public static void main(String[] args) throws IOException {
        text = Files.readString(README);
        example();
        for (Method method : EarthBanks.class.getDeclaredMethods()) {
            if (!Modifier.isPublic(method.getModifiers())) continue;
            Check.holds("README.md names " + method.getName(), text.contains("`" + method.getName() + "`"));
        }
        Check.holds("README.md says how to run the tests", text.contains("    .ci/run\n"));
        Check.end();
    }

    private static void example() {
        EarthBanks banks = new EarthBanks();
        shown("type(0x726F7720302061L, 7)", "\"row 0 a\": 7", banks.type(0x726F7720302061L, 7), 7);
        shown("type(0x616161616161613BL, 8)", "\"aaaaaaa;\": 15", banks.type(0x616161616161613BL, 8), 15);
        shown("dam()", "8 cells of earth", banks.dam(), 8);
        shown("lake(1)", "what it was: 0", banks.lake(1), 0);
        shown("sweep(40)", "7 cells are wet", banks.sweep(40), 7);
        shown("cell(1, 0, 1)", "HEAD of the cell: 855", banks.cell(1, 0, 1), 855);
        shown("least(-1)", "the least margin: 9999", banks.least(-1), 9999);
        shown("breach()", "EarthBanks.NONE", banks.breach(), EarthBanks.NONE);
        shown("lake(7)", "EarthBanks.BAD", banks.lake(7), EarthBanks.BAD);
    }

    /** A row of the example, its answer as README.md has it, and as it is due. */
    private static void shown(String call, String answer, int got, int want) {
        boolean stands = text.lines().anyMatch(line -> line.startsWith("banks." + call + ";") && line.contains("// " + answer));
        Check.holds("README.md has " + call + " with \"" + answer + "\"", stands);
        Check.due(call, got, want);
    }
}
