import java.nio.charset.StandardCharsets;
import java.util.ArrayDeque;
import java.util.Deque;
import java.util.NoSuchElementException;
import java.util.Random;

/** All promises at once: random calls, always the same ones, answered by the program and by the model. */
public final class RandomTest {
    private static final String[] NAMES = {"people", "seats", "strict", "child", "like", "genre", "age", "minutes",
        "night", "worn", "heads"};
    private static final String[] SIGNS = {"+", "-", "*", "/", "%", "<", "<=", "=", "<>", ">=", ">"};
    private static final String[] LINES = {"allow", "price", "renter", "parish", "eggs", "night", "fuel"};
    private static final int[] WILD = {Integer.MIN_VALUE, Integer.MAX_VALUE, -2, -1, 4, 8, 16, 24, 40, 256, 500, 1000};

    private final Random random;
    private final VanShows x = new VanShows();
    private final Model m = new Model();
    private final Deque<String> latest = new ArrayDeque<>();
    private int calls = 0;

    private RandomTest(long seed) {
        random = new Random(seed);
    }

    private int any(int least, int most) {
        return least + random.nextInt(most - least + 1);
    }

    /** Mostly within the ends, now and then beyond. */
    private int arg(int least, int most) {
        int chance = random.nextInt(60);
        if (chance == 0) {
            return WILD[random.nextInt(WILD.length)];
        }
        if (chance == 1) {
            return least - 1;
        }
        if (chance == 2) {
            return most + 1;
        }
        if (chance == 3) {
            return least;
        }
        return chance == 4 || most < least ? most : any(least, most);
    }

    private int villageArg() {
        return arg(0, m.villages.size() - 1);
    }

    private int vanArg() {
        return arg(0, m.vans.size() - 1);
    }

    private int printArg() {
        return arg(0, m.prints.size() - 1);
    }

    private void same(String call, long got, long want) {
        calls++;
        latest.add(call + " -> " + want);
        if (latest.size() > 600) {
            latest.remove();
        }
        if (got != want) {
            latest.forEach(System.out::println);
        }
        Check.due(call, got, want);
        if (got != want) {
            Check.end();
        }
    }

    private String expression(int depth) {
        int kind = random.nextInt(depth <= 0 ? 2 : 9);
        switch (kind) {
            case 0:
                return Integer.toString(random.nextInt(8) == 0 ? random.nextInt(100000) : random.nextInt(60));
            case 1:
                return NAMES[random.nextInt(random.nextInt(4) == 0 ? 11 : 10)];
            case 2:
                return "-" + factor(depth - 1);
            case 3:
                return "(" + expression(depth - 1) + ")";
            case 4:
                return "not " + factor(depth - 1);
            case 5:
                return factor(depth - 1) + (random.nextBoolean() ? " and " : " or ") + factor(depth - 1);
            default:
                return factor(depth - 1) + SIGNS[random.nextInt(SIGNS.length)] + factor(depth - 1);
        }
    }

    private String factor(int depth) {
        return random.nextBoolean() ? expression(depth) : "(" + expression(depth) + ")";
    }

    private String text() {
        StringBuilder text = new StringBuilder();
        int lines = any(0, 5);
        int first = random.nextInt(LINES.length);
        for (int i = 0; i < lines; i++) {
            // seldom one that is told already
            String line = LINES[random.nextInt(20) == 0 ? random.nextInt(LINES.length) : (first + i) % LINES.length];
            if (line.equals("night")) {
                text.append("night ").append(any(55, 905));
            } else if (line.equals("fuel")) {
                text.append("fuel ").append(any(0, 101));
            } else {
                text.append(line).append(' ').append(expression(random.nextInt(5)));
            }
            text.append(random.nextInt(40) == 0 ? "" : ";").append(random.nextBoolean() ? "\n" : "");
        }
        if (random.nextInt(4) == 0 && text.length() > 0) {
            int place = random.nextInt(text.length());
            String marks = "abc09 ()<>=;+-*/%\n\t,Z\u00e9\0";
            text.setCharAt(place, marks.charAt(random.nextInt(marks.length())));
        }
        return text.length() > 500 ? text.substring(0, 500) : text.toString();
    }

    private void tellTerms() {
        String text = text();
        byte[] bytes = text.getBytes(StandardCharsets.ISO_8859_1);
        for (int i = 0; i < bytes.length; i += 20) {
            int[] n = new int[5];
            for (int k = 0; k < 5; k++) {
                n[k] = Check.four(bytes, i + 4 * k);
            }
            same("feed of '" + text + "' from " + i, x.feed(n[0], n[1], n[2], n[3], n[4]), m.feed(n));
        }
        int n = random.nextInt(12) == 0 ? arg(0, 500) : bytes.length;
        same("terms(" + n + ") of '" + text + "'", x.terms(n), m.terms(n));
        same("fault(0)", x.fault(0), m.faultKind);
        same("fault(1)", x.fault(1), m.faultPlace);
        same("count(10)", x.count(10), m.count(10));
    }

    private void build() {
        int a = arg(1, 999);
        int b = arg(1, 500);
        int c = arg(0, 9);
        int d = arg(0, 100);
        switch (random.nextInt(9)) {
            case 0, 1:
                same("village(" + a + ", " + b + ", " + c + ", " + d + ")", x.village(a, b, c, d), m.village(a, b, c, d));
                break;
            case 2, 3, 4:
                buildRoad();
                break;
            case 5:
                int at = villageArg();
                same("van(" + at + ")", x.van(at), m.van(at));
                break;
            case 6, 7:
                buildPrint();
                break;
            default:
                int village = villageArg();
                int genre = arg(0, 3);
                same("like(" + village + ", " + genre + ", " + d + ")", x.like(village, genre, d) ? 1 : 0,
                    m.like(village, genre, d) ? 1 : 0);
        }
    }

    private void buildRoad() {
        int a = villageArg();
        int b = villageArg();
        int minutes = random.nextBoolean() ? arg(1, 60) : arg(1, 600);
        int shut = random.nextBoolean() ? 0 : arg(0, 15);
        same("road(" + a + ", " + b + ", " + minutes + ", " + shut + ")", x.road(a, b, minutes, shut),
            m.road(a, b, minutes, shut));
    }

    private void buildPrint() {
        int genre = arg(0, 3);
        int age = arg(0, 18);
        int minutes = arg(10, 240);
        int van = vanArg();
        int home = villageArg();
        int due = arg(0, 4);
        int fine = arg(0, 999);
        same("print(" + genre + ", " + age + ", " + minutes + ", " + van + ", " + home + ", " + due + ", " + fine + ")",
            x.print(genre, age, minutes, van, home, due, fine), m.print(genre, age, minutes, van, home, due, fine));
    }

    private void plan() {
        int night = arg(0, 3);
        int van = vanArg();
        int village = villageArg();
        int print = printArg();
        switch (random.nextInt(12)) {
            case 0, 1, 2:
                same("hand(" + night + ", " + print + ", " + van + ")", x.hand(night, print, van),
                    m.hand(night, print, van));
                break;
            case 3:
                int nights = random.nextBoolean() ? 0 : arg(0, 15);
                same("broken(" + van + ", " + nights + ")", x.broken(van, nights) ? 1 : 0, m.broken(van, nights) ? 1 : 0);
                break;
            case 4:
                int price = arg(1, 99);
                same("egg(" + night + ", " + price + ")", x.egg(night, price) ? 1 : 0, m.egg(night, price) ? 1 : 0);
                break;
            case 5:
                int whose = random.nextInt(8) == 0 ? -1 : van;
                if (random.nextInt(3) == 0) {
                    same("clear(" + whose + ")", x.clear(whose), m.clear(whose));
                }
                break;
            default:
                van = m.isPrint(print) && random.nextInt(3) > 0 ? m.prints.get(print).van() : van;
                same("entry(" + night + ", " + van + ", " + village + ", " + print + ")",
                    x.entry(night, van, village, print), m.entry(night, van, village, print));
        }
    }

    private void ask() {
        int shut = random.nextBoolean() ? 0 : arg(0, 255);
        int what = arg(0, 4);
        int night = arg(0, 3);
        int van = vanArg();
        int village = villageArg();
        int print = printArg();
        int entry = arg(0, m.entries.size() - 1);
        switch (random.nextInt(12)) {
            case 0, 1, 2:
                int part = arg(0, 6);
                same("shown(" + entry + ", " + shut + ", " + part + ")", x.shown(entry, shut, part),
                    m.shown(entry, shut, part));
                break;
            case 3, 4:
                same("run(" + shut + ", " + what + ")", x.run(shut, what), m.run(shut, what));
                break;
            case 5:
                same("where(" + van + ", " + night + ", " + shut + ")", x.where(van, night, shut),
                    m.where(van, night, shut));
                break;
            case 6, 7:
                same("printed(" + print + ", " + shut + ", " + what + ")", x.printed(print, shut, what),
                    m.printed(print, shut, what));
                break;
            case 8:
                int to = villageArg();
                int bits = arg(0, 3);
                same("way(" + village + ", " + to + ", " + bits + ")", x.way(village, to, bits), m.way(village, to, bits));
                break;
            case 9:
                int which = arg(0, 10);
                same("count(" + which + ")", x.count(which), m.count(which));
                break;
            case 10:
                askLook(village, arg(0, 7));
                break;
            default:
                same("rounded(" + what + ")", x.rounded(what), m.rounded(what));
        }
    }

    private void askLook(int village, int what) {
        long got;
        long want;
        try {
            got = x.look(village, what);
        } catch (IndexOutOfBoundsException e) {
            got = -11;
        } catch (NoSuchElementException e) {
            got = -12;
        }
        try {
            want = m.look(village, what);
        } catch (IndexOutOfBoundsException e) {
            want = -11;
        } catch (NoSuchElementException e) {
            want = -12;
        }
        same("look(" + village + ", " + what + ")", got, want);
    }

    private void note() {
        int village = villageArg();
        int night = arg(0, 3);
        int heads = arg(0, 500);
        if (random.nextInt(5) < 2) {
            int note = arg(0, m.notes.size() - 1);
            same("strike(" + note + ")", x.strike(note), m.strike(note));
        } else {
            same("report(" + village + ", " + night + ", " + heads + ")", x.report(village, night, heads),
                m.report(village, night, heads));
        }
        int n = random.nextBoolean() ? m.notes.size() : arg(0, m.notes.size());
        int what = arg(0, 2);
        same("ends(" + n + ", " + what + ")", x.ends(n, what), m.ends(n, what));
    }

    private void askDear(boolean wholeRound) {
        int what = arg(0, 3);
        same("expected(" + what + ")", x.expected(what), m.expected(what));
        int van = vanArg();
        int n = wholeRound ? arg(1, 3) : 1;
        same("round(" + van + ", " + n + ")", x.round(van, n), m.round(van, n));
        for (int k = 0; k < 5; k++) {
            same("rounded(" + k + ")", x.rounded(k), m.rounded(k));
        }
    }

    /** A land in which most shows can be: without it few runs of calls would come far. */
    private void buildTidily() {
        int villages = any(2, 4);
        for (int i = 0; i < villages; i++) {
            same("village", x.village(300 - i, 40 + 60 * i, i, 10 * i), m.village(300 - i, 40 + 60 * i, i, 10 * i));
        }
        for (int i = 1; i < villages; i++) {
            int from = random.nextInt(i);
            int minutes = any(1, 120);
            int shut = random.nextBoolean() ? 0 : any(1, 15);
            same("road(" + from + ", " + i + ", " + minutes + ", " + shut + ")", x.road(from, i, minutes, shut),
                m.road(from, i, minutes, shut));
        }
        int vans = any(1, 3);
        for (int i = 0; i < vans; i++) {
            int at = random.nextInt(villages);
            same("van(" + at + ")", x.van(at), m.van(at));
        }
        int prints = any(1, 4);
        for (int i = 0; i < prints; i++) {
            buildPrint();
        }
    }

    private void go() {
        if (random.nextInt(4) > 0) {
            buildTidily();
        }
        int size = random.nextBoolean() ? 0 : any(10, 60);
        for (int i = 0; i < size; i++) {
            build();
        }
        int steps = any(20, 120);
        for (int i = 0; i < steps && calls < 440; i++) {
            int chance = random.nextInt(40);
            if (chance < 12) {
                plan();
            } else if (chance < 30) {
                ask();
            } else if (chance < 33) {
                tellTerms();
            } else if (chance < 37) {
                note();
            } else if (chance < 39) {
                build();
            } else if (random.nextInt(3) == 0) {
                askDear(random.nextInt(4) == 0);
            }
        }
    }

    public static void main(String[] args) {
        int runs = args.length > 0 ? Integer.parseInt(args[0]) : 600;
        long first = args.length > 1 ? Long.parseLong(args[1]) : 1;
        for (int i = 0; i < runs; i++) {
            new RandomTest(first + i).go();
        }
        Check.end();
    }
}
