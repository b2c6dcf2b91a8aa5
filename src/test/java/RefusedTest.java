import java.util.ArrayList;
import java.util.List;
import java.util.NoSuchElementException;

/** Refused calls and questions change nothing; a new object has nothing; and what count tells: promises 1 and 27. */
public final class RefusedTest {
    private static final int MIN = Integer.MIN_VALUE;
    private static final int MAX = Integer.MAX_VALUE;
    private static final int BLANKS = 0x20202020;

    private interface Made {
        VanShows make();
    }

    private interface Call {
        long on(VanShows x);
    }

    /** Some of everything, nothing full. */
    private static VanShows some() {
        VanShows x = new VanShows();
        x.village(100, 40, 2, 30);
        x.village(200, 500, 5, 10);
        x.village(50, 30, 9, 0);
        x.like(1, 1, 70);
        x.road(0, 1, 30, 0);
        x.road(1, 2, 60, 4);
        x.van(0);
        x.van(1);
        x.print(0, 12, 90, 0, 0, 0, 50);
        x.print(1, 0, 60, 1, 1, 4, 10);
        x.broken(1, 8);
        Check.terms(x, "price 7+strict;eggs 30;fuel 7;night 500;");
        x.egg(1, 3);
        x.entry(0, 0, 1, 0);
        x.entry(1, 0, 2, 0);
        x.entry(1, 1, 1, 1);
        x.entry(3, 1, 1, 1);
        x.hand(1, 1, 0);
        x.report(1, 0, 33);
        x.strike(0);
        x.report(2, 1, 5);
        x.round(0, 2);
        x.feed(0x6675656c, 0x20383b20, BLANKS, BLANKS, BLANKS);
        return x;
    }

    /** Nothing more can come. */
    private static VanShows full() {
        VanShows x = new VanShows();
        for (int i = 0; i < 8; i++) {
            x.village(100 + i, 40 + i, i, 10 * i);
        }
        for (int i = 0; i < 14; i++) {
            x.road(i % 7, i % 7 + 1, 50 - i, i == 8 || i == 12 ? 3 : 0);
        }
        for (int i = 0; i < 3; i++) {
            x.van(2 * i);
        }
        for (int i = 0; i < 4; i++) {
            x.print(i, i, 10 + i, i % 3, i, i, i);
        }
        for (int i = 0; i < 24; i++) {
            x.entry(i % 4, i % 3, i % 8, i % 3);
        }
        for (int i = 0; i < 12; i++) {
            x.hand(i % 4, 3, i % 3);
        }
        for (int i = 0; i < 40; i++) {
            x.report(i % 8, i % 4, i);
        }
        x.round(0, 1);
        x.feed(0x6675656c, 0x20383b20, BLANKS, BLANKS, BLANKS);
        for (int i = 1; i < 25; i++) {
            x.feed(BLANKS, BLANKS, BLANKS, BLANKS, BLANKS);
        }
        return x;
    }

    /** All that may be asked of an office, in fewer calls than are left to it; at last what lies on its tape. */
    private static List<Long> told(VanShows x) {
        List<Long> all = new ArrayList<>();
        for (int what = 0; what < 11; what++) {
            all.add((long) x.count(what));
        }
        for (int village = 0; village < x.count(0); village++) {
            for (int what = 0; what < 8; what++) {
                all.add((long) x.look(village, what));
            }
            for (int shut = 0; shut < 4; shut++) {
                all.add((long) x.way(0, village, shut));
            }
        }
        for (int entry = 0; entry < x.count(5); entry++) {
            all.add((long) x.shown(entry, 0, 0));
            all.add((long) x.shown(entry, 0, 5));
        }
        for (int what = 0; what < 5; what++) {
            all.add((long) x.run(0, what));
            all.add((long) x.run(170, what));
            all.add((long) x.rounded(what));
            all.add(x.expected(what));
            all.add((long) x.ends(x.count(7), what));
            all.add((long) x.fault(what));
        }
        for (int van = 0; van < x.count(3); van++) {
            all.add((long) x.where(van, 3, 0));
        }
        for (int print = 0; print < x.count(4); print++) {
            for (int what = 0; what < 4; what++) {
                all.add((long) x.printed(print, 0, what));
            }
        }
        all.add((long) x.terms(8));
        all.add((long) x.fault(1));
        all.add((long) x.count(9));
        return all;
    }

    private static void same(String call, Made made, Call tried, long answer) {
        VanShows asked = made.make();
        Check.due(call, tried.on(asked), answer);
        Check.due(call + " leaves all as it was", told(asked).equals(told(made.make())), true);
    }

    private static void refused(String call, Call tried, long answer) {
        same(call, RefusedTest::some, tried, answer);
    }

    private static void onFull(String call, Call tried, long answer) {
        same(call + " when it is full", RefusedTest::full, tried, answer);
    }

    private static void fullOnes() {
        Check.says("NONE, and none come, if it would have more than 500.");
        onFull("feed", x -> x.feed(-1, -1, -1, -1, -1), -1);
        Check.says("-2, and the TAPE stays: there are not so many, n is below 0.");
        onFull("terms(501)", x -> x.terms(501), -2);
        onFull("terms(-1)", x -> x.terms(-1), -2);
        Check.says("A VILLAGE: its number; NONE: it can't be, or there are 8.");
        onFull("village", x -> x.village(1, 1, 1, 1), -1);
        Check.says("A ROAD (shut 0: no PASS): its number; NONE: it can't be, there are 14, or it would be a third PASS.");
        onFull("road", x -> x.road(0, 1, 1, 0), -1);
        onFull("pass", x -> x.road(0, 1, 1, 1), -1);
        Check.says("A VAN: its number; NONE: no such VILLAGE, or there are 3.");
        onFull("van", x -> x.van(7), -1);
        Check.says("A PRINT: its number; NONE: it can't be, or there are 4.");
        onFull("print", x -> x.print(0, 0, 10, 0, 0, 0, 0), -1);
        Check.says("An ENTRY: its number; NONE: no such NIGHT, VAN, VILLAGE, PRINT, or there are 24.");
        onFull("entry", x -> x.entry(0, 0, 0, 0), -1);
        Check.says("A HAND: its number; NONE: no such NIGHT, PRINT, VAN, or there are 12.");
        onFull("hand", x -> x.hand(0, 0, 0), -1);
        Check.says("A REPORT: its NOTE's number; NONE: no such VILLAGE, NIGHT, number, or there are 40.");
        onFull("report", x -> x.report(0, 0, 0), -1);
        Check.says("A NOTE is STRUCK: this NOTE's number; NONE: no such one, or there are 40.");
        onFull("strike", x -> x.strike(39), -1);
        Check.says("With more than 1200 such ROWS it is SPENT.");
        onFull("round", x -> x.round(0, 3), -1);
    }

    private static void wrongOnes() {
        Check.says("NONE: it can't be");
        int[] far = {MIN, -1, MAX};
        for (int n : far) {
            refused("terms " + n, x -> x.terms(n), -2);
            refused("village people " + n, x -> x.village(n, 1, 0, 0), -1);
            refused("village child " + n, x -> x.village(1, 1, 0, n), -1);
            refused("road from " + n, x -> x.road(n, 1, 5, 0), -1);
            refused("road minutes " + n, x -> x.road(0, 1, n, 0), -1);
            refused("road shut " + n, x -> x.road(0, 1, 5, n), -1);
            refused("van " + n, x -> x.van(n), -1);
            refused("print genre " + n, x -> x.print(n, 0, 10, 0, 0, 0, 0), -1);
            refused("print van " + n, x -> x.print(0, 0, 10, n, 0, 0, 0), -1);
            refused("print fine " + n, x -> x.print(0, 0, 10, 0, 0, 0, n), -1);
            refused("like n " + n, x -> Check.bit(x.like(0, 0, n)), 0);
            refused("like genre " + n, x -> Check.bit(x.like(0, n, 1)), 0);
            refused("like village " + n, x -> Check.bit(x.like(n, 0, 1)), 0);
            refused("broken van " + n, x -> Check.bit(x.broken(n, 1)), 0);
            refused("broken nights " + n, x -> Check.bit(x.broken(1, n)), 0);
            refused("egg night " + n, x -> Check.bit(x.egg(n, 1)), 0);
            refused("egg price " + n, x -> Check.bit(x.egg(1, n)), 0);
            refused("entry night " + n, x -> x.entry(n, 0, 0, 0), -1);
            refused("entry van " + n, x -> x.entry(0, n, 0, 0), -1);
            refused("entry village " + n, x -> x.entry(0, 0, n, 0), -1);
            refused("entry print " + n, x -> x.entry(0, 0, 0, n), -1);
            refused("hand night " + n, x -> x.hand(n, 0, 0), -1);
            refused("hand print " + n, x -> x.hand(0, n, 0), -1);
            refused("hand van " + n, x -> x.hand(0, 0, n), -1);
            refused("report village " + n, x -> x.report(n, 0, 0), -1);
            refused("report night " + n, x -> x.report(0, n, 0), -1);
            refused("report heads " + n, x -> x.report(0, 0, n), -1);
            refused("strike " + n, x -> x.strike(n), -1);
            refused("round van " + n, x -> x.round(n, 1), -1);
            refused("round n " + n, x -> x.round(0, n), -1);
        }
        refused("a road to itself", x -> x.road(1, 1, 5, 0), -1);
        refused("clear(2)", x -> x.clear(2), -2);
        refused("clear(-2)", x -> x.clear(-2), -2);
        refused("egg(1, 100)", x -> Check.bit(x.egg(1, 100)), 0);
        refused("broken(1, 16)", x -> Check.bit(x.broken(1, 16)), 0);
        refused("like(1, 1, 101)", x -> Check.bit(x.like(1, 1, 101)), 0);
        refused("strike(3)", x -> x.strike(3), -1);
    }

    /** Questions, answered or refused, and a second round of the same kind. */
    private static void questions() {
        Check.says("(THE ROW stays as it is.)");
        refused("round(0, 2)", x -> x.round(0, 2), some().round(0, 2));
        onFull("round(0, 1)", x -> x.round(0, 1), full().round(0, 1));
        Check.says("NONE: no such ones.");
        int[] some = {0, 3, 255};
        for (int n : some) {
            refused("shown", x -> Math.min(x.shown(0, n, 1), 1), 1);
            refused("run", x -> Math.min(x.run(n, 0), 1), 1);
            refused("where", x -> x.where(0, 0, n), 1);
            refused("printed", x -> Math.min(x.printed(0, n, 0), 0), 0);
        }
        refused("shown(9, 0, 0)", x -> x.shown(9, 0, 0), -1);
        refused("run(256, 0)", x -> x.run(256, 0), MIN);
        refused("where(0, 4, 0)", x -> x.where(0, 4, 0), -1);
        refused("printed(2, 0, 0)", x -> x.printed(2, 0, 0), -1);
        refused("expected(1)", x -> Long.signum(x.expected(1)), 1);
        refused("expected(4)", x -> x.expected(4), Long.MIN_VALUE);
        refused("ends(3, 1)", x -> Long.signum(x.ends(3, 1)), 1);
        refused("ends(4, 0)", x -> x.ends(4, 0), -1);
        refused("look(3, 0)", x -> thrown(x, 3, 0), 1);
        refused("look(0, 8)", x -> thrown(x, 0, 8), 2);
        refused("look(0, 0)", x -> thrown(x, 0, 0), 0);
    }

    private static int thrown(VanShows x, int village, int what) {
        try {
            x.look(village, what);
            return 0;
        } catch (IndexOutOfBoundsException e) {
            return 1;
        } catch (NoSuchElementException e) {
            return 2;
        }
    }

    private static void counts() {
        Check.says("0 VILLAGES, 1 ROADS, 2 PASSES, 3 VANS, 4 PRINTS, 5 ENTRIES, 6 HANDS, 7 NOTES, 8 night, 9 fuel, 10 KNOTS.");
        int[][] due = {{0, 0, 0, 0, 0, 0, 0, 0, 600, 5, 0}, {3, 2, 1, 2, 2, 4, 1, 3, 500, 7, 4},
            {8, 14, 2, 3, 4, 24, 12, 40, 600, 5, 0}};
        VanShows[] offices = {new VanShows(), some(), full()};
        for (int i = 0; i < 3; i++) {
            for (int what = 0; what < 11; what++) {
                Check.due("count(" + what + ")", offices[i].count(what), due[i][what]);
            }
        }
        Check.says("NONE for another what.");
        int[] beyond = {MIN, -1, 11, 12, MAX};
        for (int what : beyond) {
            Check.due("count(" + what + ")", full().count(what), -1);
        }
        VanShows x = new VanShows();
        Check.taken(x, "night 60;fuel 0;", 2);
        Check.due("the least night", x.count(8), 60);
        Check.due("the least fuel", x.count(9), 0);
        Check.taken(x, "night 900;fuel 99;", 2);
        Check.due("the greatest night", x.count(8), 900);
        Check.due("the greatest fuel", x.count(9), 99);
    }

    private static void newObject() {
        Check.says("No VILLAGES, ROADS, VANS, PRINTS, TERMS, ENTRIES, REPORTS; an empty TAPE.");
        // one that was made while another one is full has nothing of it
        VanShows other = full();
        VanShows x = new VanShows();
        for (int what = 0; what < 8; what++) {
            Check.due("count(" + what + ")", x.count(what), 0);
        }
        Check.due("night without a line", x.count(8), 600);
        Check.due("fuel without a line", x.count(9), 5);
        Check.due("no knots", x.count(10), 0);
        Check.due("no village", thrown(x, 0, 0), 1);
        Check.due("no van", x.where(0, 0, 0), -1);
        Check.due("no print", x.printed(0, 0, 0), -1);
        Check.due("no entry", x.shown(0, 0, 0), -1);
        Check.due("no note", x.strike(0), -1);
        Check.due("no byte", x.terms(1), -2);
        Check.due("no fault", x.fault(0), 0);
        Check.due("no place", x.fault(1), -1);
        Check.due("no round", x.rounded(4), MIN);
        Check.due("the first twenty bytes", x.feed(0, 0, 0, 0, 0), 20);
        Check.due("the other one is full still", other.count(5), 24);
    }

    public static void main(String[] args) {
        fullOnes();
        wrongOnes();
        questions();
        counts();
        newObject();
        Check.end();
    }
}
