import java.io.IOException;
import java.nio.file.Files;
import java.nio.file.Path;
import java.util.List;
import java.util.Map;
import java.util.TreeMap;
import java.util.regex.Matcher;
import java.util.regex.Pattern;

/** Rules of LANGUAGE.md that can be seen in the text of the class; to be run in the project's own directory. */
public final class LanguageTest {
    private static final Path SOURCE = Path.of("src/main/java/EarthBanks.java");
    private static final int LONGEST_METHOD = 60;
    private static final int DEEPEST = 8;

    private static final String[] RULED_OUT = {
        "\\b(throw|throws|try|catch|finally|synchronized|assert)\\b", "->", "::", "\\bpackage\\b", "Exact\\b",
        "\\b(System\\.(?!arraycopy)\\w+|Thread|Random|Runtime|Object|Object\\[\\])\\b", "\\bimport (?!java\\.util\\.(Arrays|ArrayList|List|Iterator);)",
        "\\b(equals|hashCode|toString)\\s*\\(\\s*\\)\\s*\\{", "\\bprotected\\b", "while \\(true\\)", "for \\(;;",
    };

    /** Rule 4: what the class may take of the library's own classes; functions alone, no constants of theirs. */
    private static final String LIBRARY = "\\b(Integer|Long|Math|Arrays|System|String|List)\\.";
    private static final String LISTED = "(Arrays\\.(copyOf|copyOfRange|fill)|System\\.arraycopy|List\\.of"
        + "|(Integer|Long|Math)\\.(compare|max|min|abs|bitCount|floorDiv|floorMod|signum))\\(";

    public static void main(String[] args) throws IOException {
        String source = Files.readString(SOURCE);
        String code = source.replaceAll("(?s)/\\*.*?\\*/", "").replaceAll("//[^\n]*", "").replaceAll("\"[^\"]*\"", "\"\"");
        for (String form : RULED_OUT) {
            Matcher matcher = Pattern.compile(form).matcher(code);
            Check.due("places with " + form, matcher.results().count(), 0);
        }
        Matcher beyondList = Pattern.compile("(?!\\b" + LISTED + ")" + LIBRARY + "\\w+").matcher(code);
        while (beyondList.find()) Check.due("places with " + beyondList.group() + ", which rule 4 does not list", 1, 0);
        Check.due("signs beyond 126", source.chars().filter(sign -> sign > 126).count(), 0);
        Matcher nested = Pattern.compile("(\\w+ )*class \\w+").matcher(code);
        int classes = 0;
        while (nested.find()) {
            classes++;
            boolean fine = classes == 1 ? nested.group().startsWith("public final") : nested.group().contains("static");
            Check.due(nested.group() + " is as told", fine ? 1 : 0, 1);
        }
        Check.due("classes up to twelve", classes <= 12 ? 1 : 0, 1);
        methodsAreShort(List.of(source.split("\n")));
        statics(code);
        Check.end();
    }

    /** A method's end is the brace at its own indent. */
    private static void methodsAreShort(List<String> lines) {
        Pattern head = Pattern.compile("^( +)(?=\\S)(?:[\\w\\[\\]. ]+ )?(\\w+)\\(([^)]*)\\) \\{$");
        Map<String, String> bodies = new TreeMap<>();
        for (int from = 0; from < lines.size(); from++) {
            Matcher matcher = head.matcher(lines.get(from));
            if (!matcher.matches() || lines.get(from).matches(" *(else )?(if|for|while|switch|return)\\b.*")) continue;
            int to = from;
            while (to < lines.size() && !lines.get(to).equals(matcher.group(1) + "}")) to++;
            Check.due(lines.get(from).trim() + " is short", to - from < LONGEST_METHOD ? 1 : 0, 1);
            Check.due(lines.get(from).trim() + " has seven parameters at most", matcher.group(3).split(",").length <= 7 ? 1 : 0, 1);
            bodies.merge(matcher.group(2), String.join("\n", lines.subList(Math.min(from + 1, to), to)), String::concat);
        }
        Check.due("methods were found", bodies.size() > 32 ? 1 : 0, 1);
        for (String method : bodies.keySet()) {
            Check.due("calls from " + method + " go eight deep at most", depth(method, bodies, 0) <= DEEPEST ? 1 : 0, 1);
        }
    }

    /** How many methods stand open at once below one, itself counted; a method that calls itself counts once. */
    private static int depth(String method, Map<String, String> bodies, int level) {
        if (level > 40) return level;
        int deepest = 0;
        for (String other : bodies.keySet()) {
            if (other.equals(method) || !Pattern.compile("\\b" + other + "\\(").matcher(bodies.get(method)).find()) continue;
            deepest = Math.max(deepest, depth(other, bodies, level + 1));
        }
        return 1 + deepest;
    }

    private static void statics(String code) {
        Matcher fields = Pattern.compile("\\bstatic (?!final)[\\w\\[\\]]+ \\w+ *[=;]").matcher(code);
        Check.due("static fields that are not final", fields.results().count(), 0);
        Check.due("static blocks", Pattern.compile("\\bstatic \\{").matcher(code).results().count(), 0);
    }
}
