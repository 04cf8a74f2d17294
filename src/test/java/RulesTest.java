import java.io.IOException;
import java.nio.file.Files;
import java.nio.file.Path;
import java.util.regex.Matcher;
import java.util.regex.Pattern;

/** What the source's text alone tells about the rules of the language; run from the project's folder. */
public final class RulesTest {
    private static final String[] NEVER = {
        "\\bimport\\b", "\\bpackage\\b", "->", "::", "\\bfinally\\b", "\\bsynchronized\\b", "\\bassert\\b", "\\btry\\b",
        "\\bcatch\\b", "\\w+Exact\\b", "\\bBigInteger\\b", "\\bjava\\.", "\\bdouble\\b", "\\bfloat\\b", "\\bprotected\\b",
        "\\bstatic\\s*\\{", "\\bequals\\b", "\\bhashCode\\b", "\\btoString\\b", "while \\(true\\)", "for \\(;",
    };
    private static final int MOST_LINES = 60;

    private RulesTest() {
    }

    public static void main(String[] args) throws IOException {
        Due due = new Due("RulesTest");
        String source = Files.readString(Path.of("src/main/java/PackedNumbers.java"));
        String code = source.replaceAll("(?s)/\\*.*?\\*/", "").replaceAll("//[^\n]*", "")
            .replaceAll("\"[^\"]*\"", "\"\"");
        for (String never : NEVER) {
            Matcher found = Pattern.compile(never).matcher(code);
            due.answer("rule: no " + never, found.find() ? found.group() : "", "");
        }
        due.answer("rule 12: no call makes an object but an exception",
            Pattern.compile("\\bnew (?!\\w*Exception\\(|(Store|Euclid|Text|Row)\\(\\)|(int|byte|boolean)\\[[A-Z_]+\\];)")
                .matcher(code).find(), false);
        due.answer("rule 3: characters 0 to 255", source.chars().allMatch(c -> c < 256), true);
        due.answer("rule 11: methods are short", longestMethod(code) <= MOST_LINES, true);
        due.end();
    }

    /** Lines from a line that opens a method to the line that closes it. */
    private static int longestMethod(String code) {
        int longest = 0;
        int from = 0;
        int line = 0;
        for (String text : code.split("\n")) {
            line++;
            if (text.matches(" {4,8}(public|private)[^=;]*\\(.*")) {
                from = line;
            }
            if (text.matches(" {4,8}\\}")) {
                longest = Math.max(longest, line - from);
            }
        }
        return longest;
    }
}
