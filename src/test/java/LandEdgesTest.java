import java.util.NoSuchElementException;

/** The edges named for villages, roads, passes, vans, prints and eggs: 'Terms' 1, promises 5 to 12 and 26. */
public final class LandEdgesTest {
    private static VanShows land(int villages) {
        VanShows x = new VanShows();
        for (int i = 0; i < villages; i++) {
            x.village(100 + i, 50 + i, i, 10 * i);
        }
        return x;
    }

    /** With as many vans, each at village 0. */
    private static VanShows fleet(int villages, int vans) {
        VanShows x = land(villages);
        for (int i = 0; i < vans; i++) {
            x.van(0);
        }
        return x;
    }

    /** 1001 and 1002 above all answers: the two ways in which look may throw. */
    private static int looked(VanShows x, int village, int what) {
        try {
            return x.look(village, what);
        } catch (IndexOutOfBoundsException e) {
            return 1001;
        } catch (NoSuchElementException e) {
            return 1002;
        }
    }

    private static void villageNumbers() {
        Check.says("VILLAGES, at most 8, numbered from 0 on");
        VanShows x = new VanShows();
        for (int i = 0; i < 8; i++) {
            Check.due("count ahead of village " + i, x.count(0), i);
            Check.due("village " + i, x.village(1 + i, 1, 0, 0), i);
        }
        Check.due("a ninth", x.village(9, 1, 0, 0), -1);
        Check.due("a tenth", x.village(10, 1, 0, 0), -1);
        Check.due("count", x.count(0), 8);
        for (int i = 0; i < 8; i++) {
            Check.due("people of " + i, looked(x, i, 0), 1 + i);
        }
    }

    private static void villageFacts() {
        Check.says("PEOPLE 1 .. 999, SEATS 1 .. 500, STRICT 0 .. 9, CHILD 0 .. 100 (of 100)");
        Check.range("people", 1, 999, 0, -1, n -> new VanShows().village(n, 1, 0, 0));
        Check.range("seats", 1, 500, 0, -1, n -> new VanShows().village(1, n, 0, 0));
        Check.range("strict", 0, 9, 0, -1, n -> new VanShows().village(1, 1, n, 0));
        Check.range("child", 0, 100, 0, -1, n -> new VanShows().village(1, 1, 0, n));
        int[][] ends = {{1, 1, 0, 0}, {999, 500, 9, 100}};
        for (int[] v : ends) {
            VanShows x = new VanShows();
            x.village(v[0], v[1], v[2], v[3]);
            for (int what = 0; what < 4; what++) {
                Check.due("kept " + what, looked(x, 0, what), v[what]);
            }
        }
        Check.says("A VILLAGE: its number; NONE: it can't be, or there are 8.");
        VanShows x = new VanShows();
        Check.due("can't be", x.village(0, 1, 0, 0), -1);
        Check.due("it took no number", x.village(1, 1, 0, 0), 0);
    }

    private static void likes() {
        Check.says("LIKE of each GENRE 0 .. 3: 0 .. 100 (50 at first)");
        for (int genre = 0; genre < 4; genre++) {
            int g = genre;
            Check.due("at first", looked(land(8), 7, 4 + genre), 50);
            Check.range("like of " + genre, 0, 100, 1, 0, n -> Check.bit(land(1).like(0, g, n)));
        }
        Check.says("LIKE: true; false: no such ones.");
        Check.range("genre", 0, 3, 1, 0, n -> Check.bit(land(1).like(0, n, 7)));
        Check.range("village of 8", 0, 7, 1, 0, n -> Check.bit(land(8).like(n, 0, 7)));
        Check.range("village of 1", 0, 0, 1, 0, n -> Check.bit(land(1).like(n, 0, 7)));
        Check.due("village of none", new VanShows().like(0, 0, 7), false);
        VanShows x = land(3);
        for (int what = 0; what < 12; what++) {
            x.like(what / 4, what % 4, 8 * what);
        }
        for (int what = 0; what < 12; what++) {
            Check.due("like kept", looked(x, what / 4, 4 + what % 4), 8 * what);
        }
        x.like(1, 1, 100);
        Check.due("told anew", looked(x, 1, 5), 100);
        Check.due("told too high", x.like(1, 1, 101), false);
        Check.due("it stays", looked(x, 1, 5), 100);
        x.like(1, 1, 0);
        Check.due("told too low", x.like(1, 1, -1), false);
        Check.due("it stays", looked(x, 1, 5), 0);
    }

    private static void roadNumbers() {
        Check.says("ROADS, at most 14, between two VILLAGES");
        VanShows x = land(2);
        for (int i = 0; i < 14; i++) {
            Check.due("count ahead of road " + i, x.count(1), i);
            Check.due("road " + i, x.road(i % 2, 1 - i % 2, 100 - i, 0), i);
        }
        Check.due("a fifteenth", x.road(0, 1, 1, 0), -1);
        Check.due("a fifteenth that were a pass", x.road(0, 1, 1, 1), -1);
        Check.due("count", x.count(1), 14);
        Check.due("no pass", x.count(2), 0);
        Check.due("the fourteenth is there, the fifteenth isn't", x.way(0, 1, 0), 87);
        Check.range("from", 1, 7, 0, -1, n -> land(8).road(n, 0, 5, 0));
        Check.range("to", 1, 7, 0, -1, n -> land(8).road(0, n, 5, 0));
        for (int i = 0; i < 8; i++) {
            Check.due("from one to itself", land(8).road(i, i, 5, 0), -1);
            Check.due("by a pass to itself", land(8).road(i, i, 5, 3), -1);
        }
        Check.due("one village alone", land(1).road(0, 1, 5, 0), -1);
        Check.due("no village", new VanShows().road(0, 1, 5, 0), -1);
    }

    private static void roadMinutes() {
        Check.says("1 .. 600 minutes, the same both ways");
        Check.range("minutes", 1, 600, 0, -1, n -> land(2).road(0, 1, n, 0));
        Check.range("minutes of a pass", 1, 600, 0, -1, n -> land(2).road(0, 1, n, 8));
        int[] ends = {1, 600};
        for (int minutes : ends) {
            VanShows x = land(2);
            x.road(1, 0, minutes, 0);
            Check.due("thither", x.way(0, 1, 0), minutes);
            Check.due("hither", x.way(1, 0, 0), minutes);
        }
        VanShows x = land(2);
        x.road(0, 1, 601, 0);
        x.road(0, 1, 0, 0);
        Check.due("one that can't be is none", x.way(0, 1, 0), -1);
    }

    private static void passes() {
        Check.says("at most 2 of them PASSES: SHUT in a NIGHT with a chance of 1 .. 15 of 16");
        Check.range("shut", 0, 15, 0, -1, n -> land(2).road(0, 1, 5, n));
        VanShows x = land(4);
        Check.due("shut 0: no pass", x.road(0, 1, 50, 0), 0);
        Check.due("passes", x.count(2), 0);
        Check.due("the first", x.road(0, 1, 40, 1), 1);
        Check.due("passes", x.count(2), 1);
        Check.due("one that can't be", x.road(0, 1, 40, 16), -1);
        Check.due("passes", x.count(2), 1);
        Check.due("the second", x.road(0, 1, 30, 15), 2);
        Check.due("passes", x.count(2), 2);
        Check.due("a third", x.road(0, 1, 20, 1), -1);
        Check.due("a third", x.road(0, 1, 20, 15), -1);
        Check.due("passes", x.count(2), 2);
        Check.due("roads", x.count(1), 3);
        Check.says("A ROAD (shut 0: no PASS): its number; NONE: it can't be, there are 14, or it would be a third PASS.");
        Check.due("a road still can be", x.road(0, 1, 45, 0), 3);
        int[] ways = {30, 30, 40, 45};
        for (int shut = 0; shut < 4; shut++) {
            Check.due("way(0, 1, " + shut + ")", x.way(0, 1, shut), ways[shut]);
        }
        for (int i = 4; i < 14; i++) {
            x.road(2, 3, 9, 0);
        }
        Check.due("roads", x.count(1), 14);
        VanShows last = land(2);
        for (int i = 0; i < 12; i++) {
            last.road(0, 1, 9, 0);
        }
        Check.due("the thirteenth a pass", last.road(0, 1, 8, 1), 12);
        Check.due("the fourteenth a pass", last.road(0, 1, 7, 1), 13);
        Check.due("a fifteenth", last.road(0, 1, 6, 0), -1);
    }

    private static void vanNumbers() {
        Check.says("VANS, at most 3, numbered from 0 on, each at a VILLAGE at first");
        VanShows x = land(8);
        int[] at = {7, 0, 7};
        for (int i = 0; i < 3; i++) {
            Check.due("count ahead of van " + i, x.count(3), i);
            Check.due("van " + i, x.van(at[i]), i);
        }
        Check.due("a fourth", x.van(1), -1);
        Check.due("count", x.count(3), 3);
        for (int i = 0; i < 3; i++) {
            Check.due("where it is at first", x.where(i, 0, 0), at[i]);
            Check.due("where it stays", x.where(i, 3, 255), at[i]);
        }
        Check.says("A VAN: its number; NONE: no such VILLAGE, or there are 3.");
        Check.range("village of 8", 0, 7, 0, -1, n -> land(8).van(n));
        Check.range("village of 1", 0, 0, 0, -1, n -> land(1).van(n));
        Check.due("no village", new VanShows().van(0), -1);
    }

    private static void brokenNights() {
        Check.says("BROKEN in told NIGHTS (bits; none at first)");
        for (int nights = -1; nights < 16; nights++) {
            VanShows x = fleet(1, 1);
            x.print(0, 0, 10, 0, 0, 4, 0);
            for (int night = 0; night < 4; night++) {
                x.entry(night, 0, 0, 0);
            }
            if (nights >= 0) {
                Check.due("broken(0, " + nights + ")", x.broken(0, nights), true);
            }
            for (int night = 0; night < 4; night++) {
                boolean is = nights >= 0 && (nights >> night) % 2 == 1;
                Check.due("cause in night " + night + ", broken " + nights, x.shown(night, 0, 0), is ? 1 : 0);
            }
        }
        Check.says("The NIGHTS in which a VAN is BROKEN (bits 0 .. 3): true; false: no such ones.");
        Check.range("nights", 0, 15, 1, 0, n -> Check.bit(fleet(1, 1).broken(0, n)));
        Check.range("van of 3", 0, 2, 1, 0, n -> Check.bit(fleet(1, 3).broken(n, 1)));
        Check.range("van of 1", 0, 0, 1, 0, n -> Check.bit(fleet(1, 1).broken(n, 1)));
        Check.due("no van", land(1).broken(0, 0), false);
        VanShows x = fleet(1, 3);
        x.print(0, 0, 10, 1, 0, 4, 0);
        x.entry(0, 1, 0, 0);
        x.broken(0, 15);
        x.broken(2, 15);
        Check.due("the others are not broken by it", x.shown(0, 0, 0), 0);
        x.broken(1, 1);
        x.broken(1, 16);
        Check.due("a refused call mends nothing", x.shown(0, 0, 0), 1);
        x.broken(1, 2);
        Check.due("told anew", x.shown(0, 0, 0), 0);
    }

    private static int printed(int which, int n) {
        int[] p = {0, 0, 10, 0, 0, 0, 0};
        p[which] = n;
        return fleet(8, 3).print(p[0], p[1], p[2], p[3], p[4], p[5], p[6]);
    }

    private static void prints() {
        Check.says("PRINTS, at most 4, numbered from 0 on: a GENRE, an AGE 0 .. 18, 10 .. 240 minutes, in a VAN at first");
        Check.range("genre", 0, 3, 0, -1, n -> printed(0, n));
        Check.range("age", 0, 18, 0, -1, n -> printed(1, n));
        Check.range("minutes", 10, 240, 0, -1, n -> printed(2, n));
        Check.range("van of 3", 0, 2, 0, -1, n -> printed(3, n));
        Check.range("van of 1", 0, 0, 0, -1, n -> fleet(1, 1).print(0, 0, 10, n, 0, 0, 0));
        VanShows x = fleet(2, 3);
        int[] in = {2, 0, 1, 2};
        for (int i = 0; i < 4; i++) {
            Check.due("count ahead of print " + i, x.count(4), i);
            Check.due("print " + i, x.print(i, i, 10 + i, in[i], 0, 0, 0), i);
        }
        Check.due("a fifth", x.print(0, 0, 10, 0, 0, 0, 0), -1);
        Check.due("count", x.count(4), 4);
        for (int i = 0; i < 4; i++) {
            Check.due("the van at first", x.printed(i, 0, 0), in[i]);
        }
        Check.says("a HOME VILLAGE, where it must be back at the end of a NIGHT DUE (0 .. 3, or 4: never asked for)");
        Check.range("home of 8", 0, 7, 0, -1, n -> printed(4, n));
        Check.range("home of 1", 0, 0, 0, -1, n -> fleet(1, 1).print(0, 0, 10, 0, n, 0, 0));
        Check.range("due", 0, 4, 0, -1, n -> printed(5, n));
        Check.says("a FINE 0 .. 999 for each NIGHT behind that.");
        Check.range("fine", 0, 999, 0, -1, n -> printed(6, n));
        Check.says("A PRINT: its number; NONE: it can't be, or there are 4.");
        Check.due("no van, no village", new VanShows().print(0, 0, 10, 0, 0, 0, 0), -1);
        Check.due("no van", land(1).print(0, 0, 10, 0, 0, 0, 0), -1);
        VanShows y = fleet(1, 1);
        Check.due("can't be", y.print(0, 0, 9, 0, 0, 0, 0), -1);
        Check.due("it took no number", y.print(0, 0, 10, 0, 0, 0, 0), 0);
    }

    /** What the print is, seen by a price that is one of its facts. */
    private static void printFacts() {
        Check.says("genre, age, minutes of the PRINT");
        int[][] ends = {{0, 0, 10}, {3, 18, 240}};
        String[] names = {"genre", "age", "minutes"};
        for (int[] p : ends) {
            for (int k = 0; k < 3; k++) {
                VanShows x = fleet(1, 1);
                x.print(p[0], p[1], p[2], 0, 0, 0, 0);
                x.entry(0, 0, 0, 0);
                Check.terms(x, "price " + names[k] + ";");
                Check.due(names[k], x.shown(0, 0, 2), 50 * p[k]);
            }
        }
    }

    private static VanShows eggOffice() {
        VanShows x = fleet(1, 1);
        x.print(0, 0, 10, 0, 0, 4, 0);
        Check.terms(x, "price 99;eggs 100;");
        x.like(0, 0, 1);
        for (int night = 0; night < 4; night++) {
            x.entry(night, 0, 0, 0);
        }
        return x;
    }

    private static void eggs() {
        Check.says("An egg's price in a NIGHT: true; false: no such ones.");
        Check.range("night", 0, 3, 1, 0, n -> Check.bit(new VanShows().egg(n, 5)));
        Check.range("price", 1, 99, 1, 0, n -> Check.bit(new VanShows().egg(0, n)));
        Check.says("(1 .. 99; 1 at first)");
        int[][] prices = {{-1, 99}, {1, 99}, {2, 50}, {98, 2}, {99, 1}};
        for (int[] p : prices) {
            VanShows x = eggOffice();
            if (p[0] > 0) {
                x.egg(0, p[0]);
            }
            Check.due("eggs of one who pays 99, egg's price " + p[0], x.shown(0, 0, 5), p[1]);
        }
        VanShows x = eggOffice();
        x.egg(0, 99);
        Check.due("too high", x.egg(0, 100), false);
        Check.due("too low", x.egg(0, 0), false);
        Check.due("no such night", x.egg(4, 50), false);
        Check.due("it stays", x.shown(0, 0, 5), 1);
        for (int night = 0; night < 4; night++) {
            VanShows y = fleet(1, 1);
            y.print(0, 0, 10, 0, 0, 4, 0);
            Check.terms(y, "price 99;eggs 2;");
            y.egg(night, 33);
            for (int other = 0; other < 4; other++) {
                y.clear(0);
                y.entry(other, 0, 0, 0);
                Check.due("told in " + night + ", asked in " + other, y.run(0, 4), other == night ? 3 : 99);
            }
        }
    }

    private static VanShows wayOffice(int passes) {
        VanShows x = land(3);
        x.road(0, 1, 100, 0);
        if (passes > 0) {
            x.road(0, 1, 10, 5);
        }
        if (passes > 1) {
            x.road(0, 1, 1, 5);
        }
        return x;
    }

    /** Roads from village 3 to all others. */
    private static VanShows star() {
        VanShows x = land(4);
        for (int i = 0; i < 3; i++) {
            x.road(i, 3, 20, 0);
        }
        return x;
    }

    private static void ways() {
        Check.says("Fewest minutes between two VILLAGES in a NIGHT in which PASSES are SHUT by bits (0 .. 3: the first one told"
            + " bit 0; those of PASSES that there aren't aren't looked at): 0 from one to itself; NONE: no way, or no such ones.");
        int[][] due = {{100, 100, 100, 100}, {10, 100, 10, 100}, {1, 1, 10, 100}};
        for (int passes = 0; passes < 3; passes++) {
            VanShows x = wayOffice(passes);
            for (int shut = 0; shut < 4; shut++) {
                Check.due(passes + " passes, shut " + shut, x.way(0, 1, shut), due[passes][shut]);
                Check.due(passes + " passes, shut " + shut + ", back", x.way(1, 0, shut), due[passes][shut]);
                Check.due("no way", x.way(0, 2, shut), -1);
                Check.due("from one to itself", x.way(2, 2, shut), 0);
            }
        }
        Check.range("shut", 0, 3, 100, -1, n -> wayOffice(0).way(0, 1, n));
        Check.range("shut, to itself", 0, 3, 0, -1, n -> wayOffice(2).way(2, 2, n));
        Check.range("to itself", 0, 2, 0, -1, n -> wayOffice(2).way(n, n, 0));
        Check.range("from", 0, 3, 1, -1, n -> Math.min(star().way(n, n == 3 ? 0 : 3, 0), 1));
        Check.range("to", 0, 3, 1, -1, n -> Math.min(star().way(n == 3 ? 0 : 3, n, 0), 1));
        Check.due("no village", new VanShows().way(0, 0, 0), -1);
        // the longest that a way can be: seven roads of 600 along eight villages
        VanShows x = land(8);
        for (int i = 0; i < 7; i++) {
            Check.due("no way yet", x.way(0, 7, 0), -1);
            x.road(i, i + 1, 600, 0);
        }
        Check.due("along all", x.way(0, 7, 0), 4200);
        Check.due("and back", x.way(7, 0, 3), 4200);
    }

    private static void nights() {
        Check.says("NIGHTS 0 .. 3.");
        VanShows x = fleet(1, 1);
        x.print(0, 0, 10, 0, 0, 4, 0);
        int[] some = {Integer.MIN_VALUE, -4, -1, 0, 1, 2, 3, 4, 7, Integer.MAX_VALUE};
        for (int night : some) {
            boolean is = night >= 0 && night <= 3;
            Check.due("entry in " + night, x.entry(night, 0, 0, 0) >= 0, is);
            Check.due("hand in " + night, x.hand(night, 0, 0) >= 0, is);
            Check.due("egg in " + night, x.egg(night, 2), is);
            Check.due("report of " + night, x.report(0, night, 1) >= 0, is);
            Check.due("where in " + night, x.where(0, night, 0), is ? 0 : -1);
        }
        Check.due("entries", x.count(5), 4);
        Check.due("hands", x.count(6), 4);
        Check.due("notes", x.count(7), 4);
        Check.due("shows, one in each night", x.run(0, 2), 4);
        Check.due("the last bit of broken is the last night", x.broken(0, 8), true);
        Check.due("shows", x.run(0, 2), 3);
    }

    private static void looks() {
        Check.says("Of a VILLAGE, what 0: PEOPLE, 1: SEATS, 2: STRICT, 3: CHILD, 4 .. 7: LIKE of GENRES 0 .. 3.");
        VanShows x = new VanShows();
        x.village(11, 22, 3, 44);
        for (int genre = 0; genre < 4; genre++) {
            x.like(0, genre, 60 + genre);
        }
        int[] facts = {11, 22, 3, 44, 60, 61, 62, 63};
        for (int what = 0; what < 8; what++) {
            Check.due("look(0, " + what + ")", looked(x, 0, what), facts[what]);
        }
        Check.says("IndexOutOfBoundsException: no such VILLAGE.");
        Check.range("village of 8", 0, 7, 50, 1001, n -> looked(land(8), n, 4));
        Check.range("village of 1", 0, 0, 50, 1001, n -> looked(land(1), n, 4));
        Check.due("no village", looked(new VanShows(), 0, 0), 1001);
        Check.says("NoSuchElementException: no such what.");
        int[] beyond = {Integer.MIN_VALUE, -1, 8, Integer.MAX_VALUE};
        for (int far : beyond) {
            Check.due("what " + far, looked(land(1), 0, far), 1002);
            Check.due("neither such a village nor such a what", looked(land(1), far, far), 1001);
        }
    }

    public static void main(String[] args) {
        villageNumbers();
        villageFacts();
        likes();
        roadNumbers();
        roadMinutes();
        passes();
        vanNumbers();
        brokenNights();
        prints();
        printFacts();
        eggs();
        ways();
        nights();
        looks();
        Check.end();
    }
}
