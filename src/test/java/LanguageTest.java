import java.io.IOException;
import java.nio.file.Files;
import java.nio.file.Path;
import java.util.List;
import java.util.regex.Matcher;
import java.util.regex.Pattern;

/** What LANGUAGE.md rules out doesn't stand in the program's text, so far as its words show it. */
public final class LanguageTest {
    private static final Path PROGRAM = Path.of("src/main/java/GridEstimator.java");
    private static final int MOST_LINES_OF_A_METHOD = 60;

    private static final String[] RULED_OUT = {
        "->", "::", "\\bimport\\b", "\\bpackage\\b", "\\btry\\b", "\\bcatch\\b", "\\bfinally\\b", "\\bassert\\b",
        "\\bsynchronized\\b", "\\binstanceof\\b", "\\bdouble\\b", "\\bfloat\\b", "Exact\\(", "\\bSystem\\b",
        "\\bThread\\b", "\\bRandom\\b", "static \\{", "\\bprotected\\b", "\\bequals\\b", "\\bhashCode\\b",
        "\\btoString\\b", "\"\\s*\\+", "\\+\\s*\"", "[^\\x00-\\x7e]",
    };
    private static final Pattern THROWN = Pattern.compile("\\bthrow\\b(?! new (IllegalStateException"
            + "|IllegalArgumentException|IndexOutOfBoundsException)\\(\"[ -~]*\"\\);)");
    private static final Pattern MADE = Pattern.compile("\\bnew\\b");
    // A call makes nothing but what it throws: all else stands in a final field.
    private static final Pattern MADE_RIGHTLY = Pattern.compile("throw new |^ {8}private final .* = new "
            + "|^ {8}(grid|meters|observation|estimate) = new ");

    private static final Due due = new Due();

    public static void main(String[] args) throws IOException {
        List<String> lines = Files.readAllLines(PROGRAM);
        for (int i = 0; i < lines.size(); i++) {
            checkLine(i + 1, withoutComment(lines.get(i)));
        }
        checkLengths(lines);
        due.close();
    }

    private static void checkLine(int number, String line) {
        for (String word : RULED_OUT) {
            due.holds("line " + number + " without " + word, !Pattern.compile(word).matcher(line).find());
        }
        due.holds("line " + number + " throws a written text", !THROWN.matcher(line).find());
        Matcher made = MADE.matcher(line);
        due.holds("line " + number + " makes nothing", !made.find() || MADE_RIGHTLY.matcher(line).find());
    }

    private static String withoutComment(String line) {
        String bare = line.strip();
        boolean isComment = bare.startsWith("//") || bare.startsWith("/*") || bare.startsWith("*");
        return isComment ? "" : line;
    }

    /** A method ends at the first closing brace that stands as far in as it begins. */
    private static void checkLengths(List<String> lines) {
        Pattern heading = Pattern.compile("^( {4}| {8})[A-Za-z].*\\).*\\{$|^ {12}throws .*\\{$");
        for (int i = 0; i < lines.size(); i++) {
            if (heading.matcher(lines.get(i)).find()) {
                int end = i;
                while (end < lines.size() && !lines.get(end).matches(" {4}\\}| {8}\\}")) {
                    end++;
                }
                due.holds("the method of line " + (i + 1) + " is short", end - i <= MOST_LINES_OF_A_METHOD);
            }
        }
    }
}
