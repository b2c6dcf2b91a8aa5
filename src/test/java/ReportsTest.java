/** Promises 23 to 25: reports, strikes and ends. */
public final class ReportsTest {
    private static VanShows office() {
        VanShows x = new VanShows();
        x.village(100, 40, 0, 0);
        x.village(100, 70, 0, 0);
        x.road(0, 1, 10, 8);
        x.van(0);
        x.print(0, 0, 10, 0, 0, 4, 0);
        x.entry(0, 0, 0, 0);
        x.entry(1, 0, 1, 0);
        x.entry(1, 0, 1, 0);
        return x;
    }

    private static void known() {
        VanShows x = office();
        Check.ends(x, 0, 0, 110, 2);
        Check.due("report", x.report(0, 0, 500), 0);
        Check.due("of a night without a show", x.report(0, 1, 9), 1);
        Check.due("report", x.report(0, 0, 20), 2);
        Check.due("report", x.report(1, 1, 0), 3);
        Check.ends(x, 1, 500, 570, 1);
        Check.ends(x, 2, 500, 570, 1);
        Check.ends(x, 3, 20, 90, 1);
        Check.ends(x, 4, 20, 20, 0);
        Check.due("strike", x.strike(2), 4);
        Check.ends(x, 5, 500, 500, 0);
        Check.due("strike of the strike", x.strike(4), 5);
        Check.ends(x, 6, 20, 20, 0);
        Check.due("strike of that", x.strike(5), 6);
        Check.ends(x, 7, 500, 500, 0);
        Check.due("strike", x.strike(0), 7);
        Check.ends(x, 8, 0, 40, 1);
        Check.due("a second strike of one note", x.strike(0), 8);
        Check.due("the first is struck", x.strike(7), 9);
        Check.ends(x, 10, 0, 40, 1);
        Check.due("the second too", x.strike(8), 10);
        Check.ends(x, 11, 500, 500, 0);
        Check.ends(x, 4, 20, 20, 0);
        x.clear(-1);
        Check.ends(x, 11, 0, 0, 0);
    }

    private static void wrong() {
        VanShows x = office();
        int[][] wrong = {{2, 0, 0}, {-1, 0, 0}, {0, 4, 0}, {0, -1, 0}, {0, 0, 501}, {0, 0, -1}};
        for (int[] w : wrong) {
            Check.due("wrong report", x.report(w[0], w[1], w[2]), -1);
        }
        Check.due("strike(0)", x.strike(0), -1);
        Check.due("strike(-1)", x.strike(-1), -1);
        for (int i = 0; i < 39; i++) {
            Check.due("report " + i, x.report(i % 2, i % 4, i), i);
        }
        Check.due("strike(39)", x.strike(39), -1);
        Check.due("the 40th note", x.strike(38), 39);
        Check.due("a 41st report", x.report(0, 0, 0), -1);
        Check.due("a 41st strike", x.strike(0), -1);
        Check.due("count(7)", x.count(7), 40);
        Check.due("ends(41, 0)", x.ends(41, 0), -1);
        Check.due("ends(-1, 0)", x.ends(-1, 0), -1);
        Check.due("ends(0, 3)", x.ends(0, 3), -1);
        Check.due("ends(0, -1)", x.ends(0, -1), -1);
        Check.ends(x, 40, 73, 73, 0);
    }

    public static void main(String[] args) {
        known();
        wrong();
        Check.end();
    }
}
