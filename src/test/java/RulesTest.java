import java.io.IOException;
import java.nio.file.Files;
import java.nio.file.Path;
import java.util.regex.Matcher;
import java.util.regex.Pattern;

/** What of LANGUAGE.md can be read off the text of the program; run from the project's root. */
public final class RulesTest {
    private static final String[] NEVER = {"->", "::", "\\bcatch\\b", "\\btry\\b", "\\bfinally\\b", "\\bsynchronized\\b",
        "\\bassert\\b", "Exact\\(", "\\bvar\\b", "\\bSystem\\.(?!arraycopy)", "\\bThread\\b", "\\brandom\\b", "\\bpackage\\b",
        "import (?!java\\.util\\.(Arrays|NoSuchElementException);)", "\\bprotected\\b", "\\bdouble\\b", "\\bfloat\\b",
        "static (?!final|int|long|boolean|void)", "[^\\x00-\\x7f]"};

    private static int found(String text, String pattern) {
        Matcher matcher = Pattern.compile(pattern).matcher(text);
        int n = 0;
        while (matcher.find()) {
            n++;
        }
        return n;
    }

    public static void main(String[] args) throws IOException {
        String text = Files.readString(Path.of("src/main/java/VanShows.java"));
        String code = text.replaceAll("(?s)/\\*.*?\\*/", "").replaceAll("//[^\n]*", "").replaceAll("\"[^\"\n]*\"", "\"\"");
        for (String pattern : NEVER) {
            Check.due("times of " + pattern, found(code, pattern), 0);
        }
        Check.due("classes are at most twelve", found(code, "\\bclass\\b") <= 12, true);
        Check.due("throws of its own, both in look", found(code, "throw new (IndexOutOfBounds|NoSuchElement)Exception"), 2);
        Check.due("throws in all", found(code, "\\bthrow\\b"), 2);
        for (String method : code.split("\n\n")) {
            Check.due("lines of " + method.strip().split("\n")[0], method.split("\n").length <= 60, true);
        }
        // a call makes no arrays and no objects: all rows are made with the office itself
        Pattern inside = Pattern.compile("^ {8,}(?!private)[^\n]*\\bnew (?!IndexOutOf|NoSuchElement|Tokens)", Pattern.MULTILINE);
        Check.due("things made by a call", found(code, inside.pattern().replaceFirst("\\^", "(?m)^")), 0);
        Check.end();
    }
}
