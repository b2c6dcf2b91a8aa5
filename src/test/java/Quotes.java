import java.io.IOException;
import java.nio.file.DirectoryStream;
import java.nio.file.Files;
import java.nio.file.Path;
import java.util.regex.Matcher;
import java.util.regex.Pattern;

/**
 * Tells which words of the document's 'Terms' and promises no test says it is about (by Check.says), and which words that
 * a test says are none of the document's. A help for the one who writes tests: it fails nothing. Run from the root.
 */
final class Quotes {
    private static final String LITERAL = "\"(?:[^\"\\\\]|\\\\.)*\"";
    private static final Pattern SAYS = Pattern.compile("Check\\.says\\((" + LITERAL + "(?:\\s*\\+\\s*" + LITERAL + ")*)\\)");

    private Quotes() {
    }

    private static String evenBlanks(String text) {
        return text.replace("```text", "").replace("```", "").replaceAll("\\s+", " ");
    }

    private static String joined(String literals) {
        return evenBlanks(literals.replaceAll("\"\\s*\\+\\s*\"", "").replaceAll("^\"|\"$", "").replace("\\\"", "\""));
    }

    public static void main(String[] args) throws IOException {
        String document = evenBlanks(Files.readString(Path.of("../shared/DOC.md")));
        document = document.replaceAll("## Promise \\d+: [A-Za-z ]+ `[^`]*`:|==== \\d\\.", "");
        int from = document.indexOf("## Terms");
        int to = document.indexOf("## Not promised");
        String part = document.substring(Math.max(from, 0), to < 0 ? document.length() : to);
        boolean[] quoted = new boolean[part.length()];
        try (DirectoryStream<Path> tests = Files.newDirectoryStream(Path.of("src/test/java"), "*Test.java")) {
            for (Path test : tests) {
                Matcher matcher = SAYS.matcher(Files.readString(test));
                while (matcher.find()) {
                    mark(part, joined(matcher.group(1)), quoted, test);
                }
            }
        }
        tellUnquoted(part, quoted);
    }

    private static void mark(String part, String words, boolean[] quoted, Path test) {
        int at = part.indexOf(words);
        if (at < 0) {
            System.out.println(test.getFileName() + " says what the document doesn't: " + words);
        }
        while (at >= 0) {
            for (int i = at; i < at + words.length(); i++) {
                quoted[i] = true;
            }
            at = part.indexOf(words, at + 1);
        }
    }

    private static void tellUnquoted(String part, boolean[] quoted) {
        int start = -1;
        for (int i = 0; i <= part.length(); i++) {
            boolean open = i < part.length() && !quoted[i];
            if (open && start < 0) {
                start = i;
            } else if (!open && start >= 0) {
                String words = part.substring(start, i).strip();
                if (words.matches("(?s).*[A-Za-z0-9].*")) {
                    System.out.println("no test says: " + words);
                }
                start = -1;
            }
        }
    }
}
