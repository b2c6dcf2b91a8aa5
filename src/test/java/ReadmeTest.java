import java.io.IOException;
import java.lang.reflect.InvocationTargetException;
import java.lang.reflect.Method;
import java.lang.reflect.Modifier;
import java.nio.file.Files;
import java.nio.file.Path;
import java.util.HashMap;
import java.util.Map;
import java.util.Set;
import java.util.TreeSet;
import java.util.regex.Matcher;
import java.util.regex.Pattern;

/** Makes the calls of README.md's examples, line by line: each must answer what is written behind it. */
public final class ReadmeTest {
    private static final Pattern BLOCK = Pattern.compile("(?s)```java\n(.*?)```");
    private static final Pattern FEED = Pattern.compile("feedText\\(office, \"([^\"]*)\"\\);");
    private static final Pattern CALL =
        Pattern.compile("(?:int (\\w+) = )?office\\.(\\w+)\\(([^)]*)\\); *// (true|false|-?\\d+)(?:: .*|)");

    private final VanShows office = new VanShows();
    private final Map<String, Integer> named = new HashMap<>();
    private final Set<String> called = new TreeSet<>();

    private static Method method(String name) {
        for (Method method : VanShows.class.getMethods()) {
            if (method.getName().equals(name) && method.getDeclaringClass() == VanShows.class) {
                return method;
            }
        }
        throw new IllegalArgumentException("no call " + name);
    }

    private Object[] arguments(String list) {
        String[] words = list.split(", ");
        Object[] arguments = new Object[words.length];
        for (int i = 0; i < words.length; i++) {
            arguments[i] = named.containsKey(words[i]) ? named.get(words[i]) : Integer.valueOf(words[i]);
        }
        return arguments;
    }

    private void call(String line, Matcher parts) throws IllegalAccessException, InvocationTargetException {
        Object answer = method(parts.group(2)).invoke(office, arguments(parts.group(3)));
        if (parts.group(1) != null) {
            named.put(parts.group(1), (Integer) answer);
        }
        called.add(parts.group(2));
        boolean same = answer.toString().equals(parts.group(4));
        Check.due("README.md: '" + line + "', which answers " + answer + ", tells the answer", same, true);
    }

    private void go(String line) throws IllegalAccessException, InvocationTargetException {
        Matcher feed = FEED.matcher(line);
        Matcher call = CALL.matcher(line);
        if (feed.matches()) {
            Check.feedText(office, feed.group(1));
            called.add("feed");
        } else if (call.matches()) {
            call(line, call);
        } else {
            Check.due("README.md: '" + line + "' is a call", line.equals("VanShows office = new VanShows();"), true);
        }
    }

    /** The two methods that put a text on the tape are those that all tests use. */
    private static void helpers(String readme) throws IOException {
        String check = Files.readString(Path.of("src/test/java/Check.java"));
        String[] heads = {"    static void feedText(", "    static int four("};
        for (String head : heads) {
            int from = check.indexOf(head);
            int to = check.indexOf("\n    }\n", Math.max(from, 0));
            boolean shown = from >= 0 && to > from && readme.contains(check.substring(from, to));
            Check.due("README.md has" + head + "..) as Check has it", shown, true);
        }
    }

    public static void main(String[] args) throws IOException, IllegalAccessException, InvocationTargetException {
        ReadmeTest test = new ReadmeTest();
        String readme = Files.readString(Path.of("README.md"));
        helpers(readme);
        Matcher blocks = BLOCK.matcher(readme);
        while (blocks.find()) {
            for (String line : blocks.group(1).split("\n")) {
                test.go(line);
            }
        }
        for (Method method : VanShows.class.getDeclaredMethods()) {
            if (Modifier.isPublic(method.getModifiers())) {
                Check.due("README.md shows " + method.getName(), test.called.contains(method.getName()), true);
            }
        }
        Check.end();
    }
}
