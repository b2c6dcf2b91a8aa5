import java.io.IOException;
import java.nio.file.Files;
import java.nio.file.Path;
import java.util.Map;
import java.util.TreeMap;
import java.util.regex.Matcher;
import java.util.regex.Pattern;

/** What of LANGUAGE.md can be read off the text of the program; run from the project's root. */
public final class RulesTest {
    private static final String[] NEVER = {"->", "::", "\\bcatch\\b", "\\btry\\b", "\\bfinally\\b", "\\bsynchronized\\b",
        "\\bassert\\b", "Exact\\(", "\\bvar\\b", "\\bSystem\\.(?!arraycopy)", "\\bThread\\b", "\\brandom\\b", "\\bpackage\\b",
        "import (?!java\\.util\\.(Arrays|NoSuchElementException);)", "\\bprotected\\b", "\\bdouble\\b", "\\bfloat\\b",
        "static (?!final|int|long|boolean|void)", "[^\\x00-\\x7f]"};

    private static final Pattern HEAD =
        Pattern.compile("(?m)^ +(?:public|private)(?: static)?(?: int| long| boolean| void)? (\\w+)\\(");
    private static final Pattern CALL = Pattern.compile("\\b(\\w+)\\(");

    private static int found(String text, String pattern) {
        Matcher matcher = Pattern.compile(pattern).matcher(text);
        int n = 0;
        while (matcher.find()) {
            n++;
        }
        return n;
    }

    /** The text of each method and constructor, from its head to the next one's; of two with one name, both together. */
    private static Map<String, String> bodies(String code) {
        Map<String, String> bodies = new TreeMap<>();
        Matcher head = HEAD.matcher(code);
        String name = null;
        int from = 0;
        while (head.find()) {
            if (name != null) {
                bodies.merge(name, code.substring(from, head.start()), String::concat);
            }
            name = head.group(1);
            from = head.end();
        }
        bodies.merge(name, code.substring(from), String::concat);
        return bodies;
    }

    /** How many calls stand open at once, the library's too; far too many where a method calls itself. */
    private static int depth(String method, Map<String, String> bodies, int above) {
        if (above > 20 || !bodies.containsKey(method)) {
            return 1;
        }
        int deepest = 0;
        Matcher call = CALL.matcher(bodies.get(method));
        while (call.find()) {
            boolean isWord = call.group(1).matches("if|for|while|switch|return");
            deepest = Math.max(deepest, isWord ? 0 : depth(call.group(1), bodies, above + 1));
        }
        return 1 + deepest;
    }

    private static void depths(String code) {
        Map<String, String> bodies = bodies(code);
        Check.due("methods are found", bodies.size() > 90, true);
        for (String method : bodies.keySet()) {
            Check.due("calls of " + method + " go at most eight deep", depth(method, bodies, 0) <= 8, true);
        }
        Check.due("the way down is seen", depth("round", bodies, 0) > 4, true);
    }

    public static void main(String[] args) throws IOException {
        String text = Files.readString(Path.of("src/main/java/VanShows.java"));
        String code = text.replaceAll("(?s)/\\*.*?\\*/", "").replaceAll("//[^\n]*", "").replaceAll("\"[^\"\n]*\"", "\"\"");
        for (String pattern : NEVER) {
            Check.due("times of " + pattern, found(code, pattern), 0);
        }
        Check.due("classes are at most twelve", found(code, "\\bclass\\b") <= 12, true);
        Check.due("throws of its own, both in look", found(code, "throw new (IndexOutOfBounds|NoSuchElement)Exception"), 2);
        Check.due("throws in all", found(code, "\\bthrow\\b"), 2);
        for (String method : code.split("\n\n")) {
            Check.due("lines of " + method.strip().split("\n")[0], method.split("\n").length <= 60, true);
        }
        // a call makes no arrays and no objects: all rows are made with the office itself
        Pattern inside = Pattern.compile("^ {8,}(?!private)[^\n]*\\bnew (?!IndexOutOf|NoSuchElement|Tokens)", Pattern.MULTILINE);
        Check.due("things made by a call", found(code, inside.pattern().replaceFirst("\\^", "(?m)^")), 0);
        depths(code);
        Check.end();
    }
}
