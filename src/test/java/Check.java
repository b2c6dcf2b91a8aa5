import java.nio.charset.StandardCharsets;

/** What the tests share: due answers, and texts put on the tape. */
final class Check {
    private static int wrong = 0;
    private static int asked = 0;
    private static String sentence = "";

    /** One call, with the number that is tried. */
    interface Tried {
        long with(int number);
    }

    private Check() {
    }

    /** The document's words that the answers from here on are due to; Quotes reads them off the test's text. */
    static void says(String words) {
        sentence = words;
    }

    static void due(String call, long got, long want) {
        asked++;
        if (got != want) {
            wrong++;
            System.out.println(call + " answered " + got + ", due is " + want
                + (sentence.isEmpty() ? "" : " by '" + sentence + "'"));
        }
    }

    static void due(String call, boolean got, boolean want) {
        due(call, got ? 1 : 0, want ? 1 : 0);
    }

    static int bit(boolean holds) {
        return holds ? 1 : 0;
    }

    /** Both ends of a range are taken, and what is beside them is not, however far. */
    static void range(String what, int least, int most, long taken, long refused, Tried call) {
        int[] within = {least, Math.min(least + 1, most), Math.max(most - 1, least), most};
        int[] beyond = {Integer.MIN_VALUE, least - 1, most + 1, Integer.MAX_VALUE};
        for (int n : within) {
            due(what + " " + n, call.with(n), taken);
        }
        for (int n : beyond) {
            due(what + " " + n, call.with(n), refused);
        }
    }

    /** Ends the test: exit code 1 if an answer was not the due one, or none was asked for. */
    static void end() {
        System.out.println(asked + " answers, " + wrong + " of them wrong");
        if (wrong != 0 || asked == 0) {
            System.exit(1);
        }
    }

    static void feedText(VanShows office, String text) {
        byte[] bytes = text.getBytes(StandardCharsets.ISO_8859_1);
        for (int i = 0; i < bytes.length; i += 20) {
            office.feed(four(bytes, i), four(bytes, i + 4), four(bytes, i + 8), four(bytes, i + 12), four(bytes, i + 16));
        }
    }

    static int four(byte[] bytes, int from) {
        int number = 0;
        for (int i = from; i < from + 4; i++) {
            number = number << 8 | (i < bytes.length ? bytes[i] & 255 : ' ');
        }
        return number;
    }

    static int terms(VanShows x, String text) {
        feedText(x, text);
        return x.terms(text.length());
    }

    /** A text that must have this fault at this place. */
    static void faulty(VanShows x, String text, int fault, int place) {
        due("terms of '" + text + "'", terms(x, text), -1);
        due("fault of '" + text + "'", x.fault(0), fault);
        due("place of '" + text + "'", x.fault(1), place);
    }

    /** A text that must be taken. */
    static void taken(VanShows x, String text, int lines) {
        due("terms of '" + text + "'", terms(x, text), lines);
        due("fault of '" + text + "'", x.fault(0), 0);
        due("place of '" + text + "'", x.fault(1), -1);
    }

    /** All that ends() tells, as known by n. */
    static void ends(VanShows x, int n, int least, int greatest, int untold) {
        due("ends(" + n + ", 0)", x.ends(n, 0), least);
        due("ends(" + n + ", 1)", x.ends(n, 1), greatest);
        due("ends(" + n + ", 2)", x.ends(n, 2), untold);
    }

    static String times(String part, int n) {
        return part.repeat(n);
    }
}
