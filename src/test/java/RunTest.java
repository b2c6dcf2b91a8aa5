/** Promises 13 to 19: entries, hands, and runs with all that they tell. */
public final class RunTest {
    /** A chain 0 - 1 - 2 of 30 and 60 minutes, the second a pass; a van at 0 and one at 1, a print in each. */
    private static VanShows office() {
        VanShows x = new VanShows();
        x.village(100, 40, 0, 0);
        x.village(200, 500, 0, 0);
        x.village(50, 30, 0, 0);
        x.road(0, 1, 30, 0);
        x.road(1, 2, 60, 4);
        x.van(0);
        x.van(1);
        x.print(0, 12, 90, 0, 0, 0, 50);
        x.print(1, 0, 60, 1, 1, 2, 10);
        return x;
    }

    private static void row() {
        VanShows x = office();
        int[][] wrong = {{4, 0, 0, 0}, {-1, 0, 0, 0}, {0, 2, 0, 0}, {0, -1, 0, 0}, {0, 0, 3, 0}, {0, 0, -1, 0},
            {0, 0, 0, 2}, {0, 0, 0, -1}};
        for (int[] w : wrong) {
            Check.due("wrong entry", x.entry(w[0], w[1], w[2], w[3]), -1);
        }
        int[][] wrongHands = {{4, 0, 0}, {-1, 0, 0}, {0, 2, 0}, {0, -1, 0}, {0, 0, 2}, {0, 0, -1}};
        for (int[] w : wrongHands) {
            Check.due("wrong hand", x.hand(w[0], w[1], w[2]), -1);
        }
        for (int i = 0; i < 24; i++) {
            Check.due("entry " + i, x.entry(i % 4, i % 2, 0, i % 2), i);
        }
        Check.due("a 25th entry", x.entry(0, 0, 0, 0), -1);
        for (int i = 0; i < 12; i++) {
            Check.due("hand " + i, x.hand(i % 4, 0, 0), i);
        }
        Check.due("a 13th hand", x.hand(0, 0, 0), -1);
        Check.due("clear(2)", x.clear(2), -2);
        Check.due("clear(-2)", x.clear(-2), -2);
        Check.due("clear(0)", x.clear(0), 12);
        Check.due("entries left", x.count(5), 12);
        Check.due("hands left", x.count(6), 12);
        Check.due("numbered anew", x.entry(0, 0, 2, 0), 12);
        Check.due("entry 12", x.shown(12, 0, 0), 0);
        Check.due("entry 13", x.shown(13, 0, 0), -1);
        Check.due("clear(-1)", x.clear(-1), 13);
        Check.due("entries left", x.count(5), 0);
        Check.due("hands left", x.count(6), 0);
        Check.due("clear(-1) again", x.clear(-1), 0);
    }

    private static void causes() {
        VanShows x = office();
        x.print(2, 0, 240, 0, 0, 4, 0);
        x.entry(0, 0, 0, 0);
        x.entry(0, 0, 2, 1);
        x.entry(0, 0, 2, 2);
        x.entry(0, 0, 1, 0);
        x.entry(0, 1, 1, 1);
        x.entry(1, 0, 0, 0);
        int[] plain = {0, 3, 0, 2, 0, 0};
        int[] shutFirst = {0, 3, 4, 0, 6, 0};
        for (int i = 0; i < 6; i++) {
            Check.due("cause of " + i, x.shown(i, 0, 0), plain[i]);
            Check.due("cause of " + i + ", pass shut in night 0", x.shown(i, 1, 0), shutFirst[i]);
            Check.due("cause of " + i + ", a pass that isn't", x.shown(i, 2, 0), plain[i]);
        }
        Check.due("shut in night 1: no way home", x.shown(5, 4, 0), 4);
        x.broken(0, 1);
        Check.due("broken", x.shown(0, 0, 0), 1);
        Check.due("broken is the first cause", x.shown(1, 0, 0), 1);
        Check.due("the other one is not", x.shown(4, 0, 0), 0);
        x.broken(0, 0);
        Check.terms(x, "night 420;");
        Check.due("90 and 90 and 240 minutes are 420", x.shown(2, 0, 0), 0);
        Check.terms(x, "night 419;");
        Check.due("a minute too long", x.shown(2, 0, 0), 5);
        Check.due("the next one is tried from where the van is", x.shown(3, 0, 6), 30);
        Check.terms(x, "allow genre<>2;");
        Check.due("not allowed", x.shown(2, 0, 0), 7);
        for (int what = 1; what < 7; what++) {
            Check.due("of none", x.shown(2, 0, what), 0);
        }
        int[][] wrong = {{-1, 0, 0}, {6, 0, 0}, {0, -1, 0}, {0, 256, 0}, {0, 0, -1}, {0, 0, 7}};
        for (int[] w : wrong) {
            Check.due("wrong shown", x.shown(w[0], w[1], w[2]), -1);
        }
    }

    private static void coins() {
        VanShows x = office();
        Check.terms(x, "price 7;renter 33;parish 15;eggs 33;fuel 7;");
        x.egg(0, 3);
        x.egg(1, 7);
        x.egg(2, 99);
        x.like(1, 0, 33);
        int[] villages = {1, 0, 1, 2};
        for (int night = 0; night < 4; night++) {
            x.entry(night, 0, villages[night], 0);
        }
        // night 0: 66 heads, 462 coins, 152 and 46, 21 pay 3 eggs; 1: 40, 280, 92, 28, 13 pay 1
        // night 2: none is left at village 1; 3: 25, 175, 57, 17, 8 pay 7 eggs, for one is 1
        int[][] due = {{0, 66, 462, 152, 46, 63, 30}, {0, 40, 280, 92, 28, 13, 30}, {0, 0, 0, 0, 0, 0, 30},
            {0, 25, 175, 57, 17, 56, 60}};
        for (int i = 0; i < 4; i++) {
            for (int what = 0; what < 7; what++) {
                Check.due("shown(" + i + ", 0, " + what + ")", x.shown(i, 0, what), due[i][what]);
            }
        }
        Check.due("heads", x.run(0, 0), 131);
        // 150 minutes: 105 coins; print 0 is back in night 1, a night late
        Check.due("profit", x.run(0, 1), 264 + 160 + 101 - 105 - 50);
        Check.due("shows", x.run(0, 2), 4);
        Check.due("fuel", x.run(0, 3), 105);
        Check.due("eggs", x.run(0, 4), 132);
        Check.due("shut in the last night", x.run(64, 2), 3);
        Check.due("fuel is cut once", x.run(64, 3), 63);
        int[] where = {1, 0, 1, 2};
        for (int night = 0; night < 4; night++) {
            Check.due("where(0, " + night + ", 0)", x.where(0, night, 0), where[night]);
        }
        Check.due("where, shut in the last night", x.where(0, 3, 64), 1);
        int[][] wrong = {{2, 0, 0}, {-1, 0, 0}, {0, 4, 0}, {0, -1, 0}, {0, 0, 256}, {0, 0, -1}};
        for (int[] w : wrong) {
            Check.due("wrong where", x.where(w[0], w[1], w[2]), -1);
        }
        int none = Integer.MIN_VALUE;
        Check.due("run(-1, 0)", x.run(-1, 0), none);
        Check.due("run(256, 0)", x.run(256, 0), none);
        Check.due("run(0, 5)", x.run(0, 5), none);
        Check.due("run(0, -1)", x.run(0, -1), none);
    }

    /** Fuel is cut for each van by itself, over all nights together. */
    private static void fuel() {
        VanShows x = new VanShows();
        x.village(10, 10, 0, 0);
        x.village(10, 10, 0, 0);
        x.road(0, 1, 3, 0);
        x.van(0);
        x.van(1);
        x.print(0, 0, 10, 0, 0, 4, 999);
        x.print(0, 0, 10, 1, 0, 4, 999);
        Check.terms(x, "fuel 5;price 0;");
        x.entry(0, 0, 1, 0);
        x.entry(0, 1, 0, 1);
        Check.due("two vans, 15 tenths each", x.run(0, 3), 2);
        x.entry(1, 0, 0, 0);
        Check.due("30 tenths and 15", x.run(0, 3), 4);
        Check.due("profit", x.run(0, 1), -4);
    }

    private static void seats() {
        VanShows x = new VanShows();
        x.village(999, 400, 0, 0);
        x.van(0);
        x.print(0, 0, 10, 0, 0, 0, 0);
        x.print(0, 0, 10, 0, 0, 0, 0);
        x.like(0, 0, 99);
        int[] heads = {400, 400, 189, 400};
        for (int night = 0; night < 4; night++) {
            x.entry(night, 0, 0, night == 3 ? 1 : 0);
            Check.due("heads in night " + night, x.shown(night, 0, 1), heads[night]);
        }
        x.like(0, 0, 0);
        Check.due("a show with no heads is a show", x.run(0, 2), 4);
        Check.due("no heads", x.run(0, 0), 0);
    }

    private static void hands() {
        VanShows x = office();
        x.hand(0, 0, 1);
        Check.due("they aren't at one village", x.printed(0, 0, 0), 0);
        x.entry(0, 0, 1, 0);
        x.hand(1, 0, 1);
        x.entry(1, 1, 2, 0);
        x.entry(1, 0, 2, 0);
        Check.due("handed on behind night 0", x.printed(0, 0, 0), 1);
        Check.due("shown by the other van", x.shown(1, 0, 0), 0);
        Check.due("no more in the first", x.shown(2, 0, 0), 3);
        x.broken(0, 2);
        Check.due("the giver is broken", x.printed(0, 0, 0), 0);
        x.broken(0, 0);
        x.broken(1, 2);
        Check.due("the getter is broken", x.printed(0, 0, 0), 0);
        x.broken(1, 13);
        Check.due("neither is in this night", x.printed(0, 0, 0), 1);
        x.broken(1, 0);
        x.hand(1, 0, 0);
        Check.due("and back again, in order", x.printed(0, 0, 0), 0);
        Check.due("shows", x.printed(0, 0, 3), 2);
    }

    private static void backAndLate() {
        VanShows x = office();
        x.print(0, 0, 10, 0, 2, 1, 7);
        x.print(0, 0, 10, 0, 2, 4, 7);
        Check.due("back at once", x.printed(0, 0, 1), 0);
        Check.due("not late", x.printed(0, 0, 2), 0);
        Check.due("never back", x.printed(2, 0, 1), -1);
        Check.due("late, never back", x.printed(2, 0, 2), 3);
        Check.due("never asked for", x.printed(3, 0, 2), 0);
        Check.due("fines", x.run(0, 1), -21);
        x.entry(0, 0, 0, 0);
        x.entry(0, 0, 1, 0);
        x.entry(2, 0, 2, 0);
        Check.due("at the end of the night it was not at home", x.printed(0, 0, 1), -1);
        Check.due("late", x.printed(0, 0, 2), 4);
        Check.due("back in night 2", x.printed(2, 0, 1), 2);
        Check.due("a night late", x.printed(2, 0, 2), 1);
        Check.due("back in night 2, not asked for", x.printed(3, 0, 1), 2);
        Check.due("not back when the pass is shut", x.printed(2, 16, 1), -1);
        Check.due("late when the pass is shut", x.printed(2, 16, 2), 3);
        Check.due("ahead of its time", x.printed(1, 0, 2), 0);
        int[][] wrong = {{4, 0, 0}, {-1, 0, 0}, {0, 256, 0}, {0, -1, 0}, {0, 0, 4}, {0, 0, -1}};
        for (int[] w : wrong) {
            Check.due("wrong printed", x.printed(w[0], w[1], w[2]), -1);
        }
    }

    public static void main(String[] args) {
        row();
        causes();
        coins();
        fuel();
        seats();
        hands();
        backAndLate();
        Check.end();
    }
}
