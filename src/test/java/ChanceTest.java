/** Promises 20 to 22: what a row brings by all ways, and the best round. */
public final class ChanceTest {
    private static final int MIN = Integer.MIN_VALUE;

    /** Villages 0, 1, 2 in a star: from 0 to 1 by a pass of 3 of 16, from 0 to 2 by one of 5 of 16. */
    private static VanShows star() {
        VanShows x = new VanShows();
        x.village(100, 500, 0, 0);
        x.village(200, 500, 0, 0);
        x.village(300, 500, 0, 0);
        x.van(0);
        x.print(0, 0, 10, 0, 0, 4, 0);
        return x;
    }

    private static void expected() {
        VanShows x = star();
        Check.due("no pass", x.expected(3), 1);
        x.entry(0, 0, 0, 0);
        Check.due("heads without a pass", x.expected(0), 50);
        x.road(0, 1, 10, 3);
        Check.due("one pass", x.expected(3), 65536);
        x.entry(1, 0, 1, 0);
        long sixteen3 = 4096;
        Check.due("heads", x.expected(0), 50 * 65536 + 100 * 13 * sixteen3);
        Check.due("shows", x.expected(2), 65536 + 13 * sixteen3);
        // 500 - 200 - 30 coins, and 1000 - 400 - 60 less 5 for fuel if the pass is open
        Check.due("profit", x.expected(1), 270 * 65536 + 535 * 13 * sixteen3);
        x.road(0, 2, 10, 5);
        long all = 4294967296L;
        Check.due("two passes", x.expected(3), all);
        x.entry(2, 0, 2, 0);
        // to 2: both open in night 2, or the first shut in night 1 and the second open in night 2
        long reached = 13 * 13 * 11 * (all / 4096) + 3 * 11 * (all / 256);
        Check.due("shows by two passes", x.expected(2), all + 13 * (all / 16) + reached);
        Check.due("heads by two passes", x.expected(0), 50 * all + 100 * 13 * (all / 16) + 150 * reached);
        Check.due("expected(4)", x.expected(4), Long.MIN_VALUE);
        Check.due("expected(-1)", x.expected(-1), Long.MIN_VALUE);
        x.clear(-1);
        Check.terms(x, "price 1000;");
        x.print(1, 0, 10, 0, 2, 0, 999);
        Check.due("what may be lost", x.expected(1), -4 * 999 * all);
    }

    private static void round() {
        VanShows x = star();
        x.road(0, 1, 10, 3);
        x.road(0, 2, 10, 5);
        Check.due("round(-1, 1)", x.round(-1, 1), -1);
        Check.due("round(1, 1)", x.round(1, 1), -1);
        Check.due("round(0, 0)", x.round(0, 0), -1);
        Check.due("round(0, 4)", x.round(0, 4), -1);
        Check.due("rounded(0)", x.rounded(0), MIN);
        Check.due("round(0, 1)", x.round(0, 1), 150);
        int[] one = {805, 8, -1, -1, 4};
        for (int what = 0; what < 5; what++) {
            Check.due("rounded(" + what + ")", x.rounded(what), one[what]);
        }
        Check.due("round(0, 3)", x.round(0, 3), 300);
        // all three once: from 0 on its own first, 30 minutes; or 1, 0, 2 with 30 too, but later by order
        Check.due("rows", x.rounded(4), 64);
        Check.due("first night", x.rounded(1), 0);
        Check.due("second night", x.rounded(2), 4);
        Check.due("third night", x.rounded(3), 8);
        Check.due("profit", x.rounded(0), 3000 * 60 / 100 * 90 / 100 - 15);
        Check.due("a call that told none leaves it", x.round(0, 4), -1);
        Check.due("rows", x.rounded(4), 64);
        Check.due("rounded(5)", x.rounded(5), MIN);
        Check.due("rounded(-1)", x.rounded(-1), MIN);
        Check.due("the row stays", x.count(5), 0);
    }

    /** Others' entries stay, own ones don't count, and none comes ahead of an entry that brings nothing. */
    private static void roundAmongOthers() {
        VanShows x = star();
        x.road(0, 1, 10, 3);
        x.road(0, 2, 10, 5);
        x.van(1);
        x.print(1, 0, 10, 1, 1, 4, 0);
        x.entry(0, 1, 2, 1);
        x.entry(3, 0, 0, 0);
        x.entry(0, 0, 2, 0);
        Check.due("heads of the row", x.run(0, 0), 150 + 50);
        // van 0 is ahead of van 1: at 2 it takes its show, but all heads are 150 either way
        Check.due("round(0, 1)", x.round(0, 1), 250);
        Check.due("it goes to 1", x.rounded(1), 4);
        Check.due("the row stays", x.run(0, 0), 200);
        Check.due("entries", x.count(5), 3);
        x.broken(0, 15);
        Check.due("round of a broken van", x.round(0, 2), 150);
        Check.due("none", x.rounded(1), -1);
        Check.due("none", x.rounded(2), -1);
        Check.due("rows", x.rounded(4), 49);
        x.broken(0, 0);
        x.hand(0, 0, 1);
        x.clear(1);
        x.entry(0, 1, 0, 1);
        // van 1 meets van 0 at village 0 and gets its print in night 1
        x.hand(1, 0, 1);
        Check.due("hands stay", x.round(0, 1), 150 + 50);
    }

    private static void spent() {
        VanShows x = new VanShows();
        for (int i = 0; i < 8; i++) {
            x.village(10, 10, 0, 0);
        }
        x.van(0);
        Check.due("no prints: one row", x.round(0, 3), 0);
        Check.due("rows", x.rounded(4), 1);
        Check.due("night 0", x.rounded(1), -1);
        x.print(0, 0, 10, 0, 0, 4, 0);
        Check.due("729 rows", x.round(0, 3), 5);
        Check.due("rows", x.rounded(4), 729);
        x.print(0, 0, 10, 0, 0, 4, 0);
        Check.due("4913 rows", x.round(0, 3), -1);
        Check.due("rows of the latest that told heads", x.rounded(4), 729);
        x.print(0, 0, 10, 0, 0, 4, 0);
        x.print(0, 0, 10, 0, 0, 4, 0);
        Check.due("1089 rows", x.round(0, 2), 10);
        Check.due("rows", x.rounded(4), 1089);
        Check.due("first night: print 0", x.rounded(1), 0);
        Check.due("second night: print 1", x.rounded(2), 1);
    }

    private static void rows(int villages, int prints, int n, int due) {
        VanShows x = new VanShows();
        for (int i = 0; i < villages; i++) {
            x.village(1, 1, 0, 0);
        }
        x.van(0);
        for (int i = 0; i < prints; i++) {
            x.print(0, 0, 10, 0, 0, 4, 0);
        }
        Check.due("round over " + n + " nights", x.round(0, n), due == -1 ? -1 : 0);
        Check.due("rows", x.rounded(4), due == -1 ? MIN : due);
    }

    /** Of as many heads the greater profit, though it comes later by order. */
    private static void profit() {
        VanShows x = new VanShows();
        x.village(100, 500, 0, 0);
        x.village(100, 500, 5, 0);
        x.road(0, 1, 10, 0);
        x.van(0);
        x.print(0, 0, 10, 0, 0, 4, 0);
        Check.terms(x, "price 5+strict;");
        Check.due("round", x.round(0, 1), 50);
        Check.due("the dearer village", x.rounded(1), 4);
        Check.terms(x, "");
        Check.due("round", x.round(0, 1), 50);
        Check.due("the nearer village", x.rounded(1), 0);
    }

    public static void main(String[] args) {
        expected();
        round();
        roundAmongOthers();
        spent();
        profit();
        rows(3, 3, 3, 1000);
        rows(5, 2, 3, -1);
        rows(5, 2, 2, 121);
        rows(8, 4, 1, 33);
        Check.end();
    }
}
