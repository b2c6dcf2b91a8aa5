import java.nio.charset.StandardCharsets;

/** What the tests share: due answers, and texts put on the tape. */
final class Check {
    private static int wrong = 0;
    private static int asked = 0;

    private Check() {
    }

    static void due(String call, long got, long want) {
        asked++;
        if (got != want) {
            wrong++;
            System.out.println(call + " answered " + got + ", due is " + want);
        }
    }

    static void due(String call, boolean got, boolean want) {
        due(call, got ? 1 : 0, want ? 1 : 0);
    }

    /** Ends the test: exit code 1 if an answer was not the due one, or none was asked for. */
    static void end() {
        System.out.println(asked + " answers, " + wrong + " of them wrong");
        if (wrong != 0 || asked == 0) {
            System.exit(1);
        }
    }

    static void feedText(VanShows x, String text) {
        byte[] bytes = text.getBytes(StandardCharsets.ISO_8859_1);
        for (int i = 0; i < bytes.length; i += 20) {
            x.feed(four(bytes, i), four(bytes, i + 4), four(bytes, i + 8), four(bytes, i + 12), four(bytes, i + 16));
        }
    }

    static int four(byte[] bytes, int from) {
        int number = 0;
        for (int i = from; i < from + 4; i++) {
            number = number << 8 | (i < bytes.length ? bytes[i] & 255 : 32);
        }
        return number;
    }

    static int terms(VanShows x, String text) {
        feedText(x, text);
        return x.terms(text.length());
    }

    /** A text that must have this fault at this place. */
    static void faulty(VanShows x, String text, int fault, int place) {
        due("terms of '" + text + "'", terms(x, text), -1);
        due("fault of '" + text + "'", x.fault(0), fault);
        due("place of '" + text + "'", x.fault(1), place);
    }

    /** A text that must be taken. */
    static void taken(VanShows x, String text, int lines) {
        due("terms of '" + text + "'", terms(x, text), lines);
        due("fault of '" + text + "'", x.fault(0), 0);
        due("place of '" + text + "'", x.fault(1), -1);
    }

    static String times(String part, int n) {
        return part.repeat(n);
    }
}
