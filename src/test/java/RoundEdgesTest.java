/** The edges named for the ROUND of a van: 'Terms' 4, promises 21 and 22. */
public final class RoundEdgesTest {
    private static final int MIN = Integer.MIN_VALUE;

    /** Villages in a row, a minute apart, with 10 heads each. */
    private static VanShows office(int villages, int vans, int prints) {
        VanShows x = new VanShows();
        for (int i = 0; i < villages; i++) {
            x.village(20, 500, 0, 0);
            if (i > 0) {
                x.road(i - 1, i, 1, 0);
            }
        }
        for (int i = 0; i < vans; i++) {
            x.van(0);
        }
        for (int i = 0; i < prints; i++) {
            x.print(0, 0, 10, 0, 0, 4, 0);
        }
        return x;
    }

    private static void round(VanShows x, int van, int n, int... due) {
        Check.due("round(" + van + ", " + n + ")", x.round(van, n), due[0]);
        for (int what = 0; what < 5; what++) {
            Check.due("rounded(" + what + ") of round(" + van + ", " + n + ")", x.rounded(what), due[1 + what]);
        }
    }

    private static void arguments() {
        Check.says("ROUND: HEADS of all SHOWS then; NONE: no such VAN, n, or SPENT. (THE ROW stays as it is.)");
        Check.range("van of 3", 0, 2, 0, -1, n -> Math.min(office(2, 3, 1).round(n, 1), 0));
        Check.range("van of 1", 0, 0, 10, -1, n -> office(2, 1, 1).round(n, 1));
        Check.due("no van", office(2, 0, 0).round(0, 1), -1);
        Check.says("ROUND of a VAN over the first n NIGHTS (1 .. 3)");
        int[] heads = {-1, 10, 20, 20, -1};
        for (int n = 0; n <= 4; n++) {
            Check.due("n " + n, office(2, 1, 1).round(0, n), heads[n]);
        }
        int[] far = {MIN, -1, 5, Integer.MAX_VALUE};
        for (int n : far) {
            Check.due("n " + n, office(2, 1, 1).round(0, n), -1);
        }
    }

    private static void rows(int villages, int prints, int n, int rows) {
        VanShows x = office(villages, 1, prints);
        int got = x.round(0, n);
        Check.due(villages + " villages, " + prints + " prints, " + n + " nights: spent", got == -1, rows > 1200);
        Check.due("rows of " + villages + " villages, " + prints + " prints, " + n + " nights", x.rounded(4),
            rows > 1200 ? MIN : rows);
    }

    private static void spent() {
        Check.says("With more than 1200 such ROWS it is SPENT.");
        for (int villages = 1; villages <= 8; villages++) {
            for (int prints = 0; prints <= 4; prints++) {
                int choices = villages * prints + 1;
                rows(villages, prints, 1, choices);
                rows(villages, prints, 2, choices * choices);
                rows(villages, prints, 3, choices * choices * choices);
            }
        }
    }

    private static void nothing() {
        Check.says("Of the latest round() that told HEADS, what 0: PROFIT, 1 .. 3: of NIGHT what less 1: 4 times the VILLAGE and the"
            + " PRINT (NONE: none), 4: how many ROWS were gone through. Integer.MIN_VALUE: none was, no such what.");
        VanShows x = office(5, 1, 2);
        for (int what = -1; what < 6; what++) {
            Check.due("none was: rounded(" + what + ")", x.rounded(what), MIN);
        }
        Check.due("spent", x.round(0, 3), -1);
        Check.due("no such n", x.round(0, 0), -1);
        Check.due("no such van", x.round(1, 1), -1);
        for (int what = 0; what < 5; what++) {
            Check.due("none told heads: rounded(" + what + ")", x.rounded(what), MIN);
        }
        // the first of ten choices: village 0 and print 0 need no fuel
        round(x, 0, 1, 10, 54, 0, -1, -1, 11);
        Check.due("spent", x.round(0, 3), -1);
        Check.due("no such n", x.round(0, 4), -1);
        Check.due("no such van", x.round(-1, 1), -1);
        int[] due = {54, 0, -1, -1, 11};
        for (int what = 0; what < 5; what++) {
            Check.due("it stays: rounded(" + what + ")", x.rounded(what), due[what]);
        }
        int[] beyond = {MIN, -1, 5, Integer.MAX_VALUE};
        for (int what : beyond) {
            Check.due("rounded(" + what + ")", x.rounded(what), MIN);
        }
        // a later one stands for an earlier one, and what the office becomes does not change it
        round(x, 0, 2, 20, 108, 0, 1, -1, 121);
        x.broken(0, 15);
        x.village(999, 500, 0, 0);
        Check.due("as it was", x.rounded(0), 108);
        Check.due("as it was", x.rounded(4), 121);
        // a round that brings no heads at all has told heads too: 0
        round(x, 0, 1, 0, 0, -1, -1, -1, 13);
    }

    private static void emptyRounds() {
        Check.says("of all ROWS in which its ENTRIES are, for each of these NIGHTS, one (of any VILLAGE and PRINT) or none, and none"
            + " in later NIGHTS, all other VANS' ENTRIES and all HANDS staying");
        for (int n = 1; n <= 3; n++) {
            round(office(8, 1, 0), 0, n, 0, 0, -1, -1, -1, 1);
        }
        // own entries are left out, in the nights asked for and in later ones
        VanShows x = office(2, 1, 1);
        for (int night = 0; night < 4; night++) {
            x.entry(night, 0, 1, 0);
            x.entry(night, 0, 0, 0);
        }
        Check.due("heads of the row", x.run(0, 0), 20);
        round(x, 0, 1, 10, 54, 0, -1, -1, 3);
        Check.due("the row stays", x.count(5), 8);
        Check.due("heads of the row", x.run(0, 0), 20);
        Check.due("shows of the row", x.run(0, 2), 8);
        // others' entries stay in every night; van 1 has a print of its own and comes behind van 0
        VanShows y = office(3, 2, 0);
        y.print(0, 0, 10, 0, 0, 4, 0);
        y.print(0, 0, 10, 1, 0, 4, 0);
        y.entry(0, 1, 0, 1);
        y.entry(3, 1, 2, 1);
        // 20 heads of van 1, if van 0 isn't in its way at village 0; fuel 2 minutes are 1 coin
        round(y, 0, 1, 30, 161, 4, -1, -1, 7);
        // the best two: 1 and then 0, 2 minutes, or 1 and then 2, 2 minutes: the first by nights
        round(y, 0, 2, 40, 214, 4, 0, -1, 49);
        // hands stay: in night 1 print 0 goes to van 1, as long as van 0 is where van 1 is
        VanShows z = office(3, 2, 1);
        z.hand(1, 0, 1);
        z.entry(2, 1, 2, 0);
        round(z, 0, 1, 20, 107, 0, -1, -1, 4);
        z.clear(-1);
        round(z, 0, 1, 10, 54, 0, -1, -1, 4);
    }

    /** Two vans that show in every night, each at a village of its own, with three seats: 3, 3, 3 and 1 heads. */
    private static void amongOthers() {
        Check.says("all other VANS' ENTRIES and all HANDS staying");
        VanShows x = new VanShows();
        for (int i = 0; i < 3; i++) {
            x.village(20, 3, 0, 0);
            if (i > 0) {
                x.road(i - 1, i, 1, 0);
            }
        }
        for (int van = 0; van < 3; van++) {
            x.van(0);
            x.print(0, 0, 10, van, 0, 4, 0);
        }
        for (int night = 0; night < 4; night++) {
            x.entry(night, 1, 1, 1);
            x.entry(night, 2, 2, 2);
        }
        // a show of 3 leaves 17 coins, one of 1 leaves 6; van 2 goes 2 minutes, 1 coin
        round(x, 0, 3, 29, 3 * 17 + 2 * 57 - 1, 0, 0, 0, 1000);
        round(x, 0, 2, 26, 2 * 17 + 2 * 57 - 1, 0, 0, -1, 100);
        round(x, 0, 1, 23, 17 + 2 * 57 - 1, 0, -1, -1, 10);
        round(x, 2, 3, 19, 3 * 17 + 57, 2, 2, 2, 1000);
        round(x, 1, 3, 19, 3 * 17 + 57 - 1, 1, 1, 1, 1000);
        round(x, 0, 3, 29, 3 * 17 + 2 * 57 - 1, 0, 0, 0, 1000);
        Check.due("heads of the row", x.run(0, 0), 20);
    }

    private static void order() {
        Check.says("the one whose RUN with no PASS SHUT has the most HEADS of all SHOWS; of several the greatest PROFIT, then the"
            + " first by NIGHTS: none ahead, then by 4 times the VILLAGE and the PRINT.");
        // a pass that is nearly always shut is open here
        VanShows x = office(1, 1, 1);
        x.village(500, 500, 0, 0);
        x.road(0, 1, 600, 15);
        Check.terms(x, "night 900;price 1;");
        round(x, 0, 1, 250, 135 - 300, 4, -1, -1, 3);
        // one head more is more than any profit
        VanShows y = new VanShows();
        y.village(200, 100, 9, 0);
        y.village(202, 101, 0, 0);
        y.road(0, 1, 600, 0);
        y.van(0);
        y.print(0, 0, 10, 0, 0, 4, 0);
        Check.terms(y, "night 900;price strict*100;renter 0;parish 0;");
        round(y, 0, 1, 101, -300, 4, -1, -1, 3);
        // as many heads: a coin more
        VanShows z = new VanShows();
        z.village(200, 100, 0, 0);
        z.village(200, 100, 0, 0);
        z.road(0, 1, 1, 0);
        z.van(0);
        z.print(0, 0, 10, 0, 0, 4, 0);
        Check.terms(z, "renter 0;parish 0;price 1;fuel 10;");
        round(z, 0, 1, 100, 100, 0, -1, -1, 3);
        VanShows far = new VanShows();
        far.village(200, 100, 0, 0);
        far.village(200, 100, 0, 0);
        far.road(0, 1, 1, 0);
        far.van(1);
        far.print(0, 0, 10, 0, 0, 4, 0);
        Check.terms(far, "renter 0;parish 0;price 1;fuel 10;");
        round(far, 0, 1, 100, 100, 4, -1, -1, 3);
        // a fine of one coin turns the choice: the print must be back at 1
        VanShows home = new VanShows();
        home.village(200, 100, 0, 0);
        home.village(200, 100, 0, 0);
        home.road(0, 1, 1, 0);
        home.van(0);
        home.print(0, 0, 10, 0, 1, 3, 1);
        Check.terms(home, "renter 0;parish 0;price 1;fuel 0;");
        round(home, 0, 1, 100, 100, 4, -1, -1, 3);
        // all alike: none ahead of all, then village 0 ahead of 1, print 0 ahead of 1
        VanShows still = office(2, 1, 2);
        still.like(0, 0, 0);
        still.like(1, 0, 0);
        Check.terms(still, "fuel 0;");
        round(still, 0, 3, 0, 0, -1, -1, -1, 125);
        still.like(1, 0, 50);
        // heads in village 1 alone: one show of each print, as late as may be
        round(still, 0, 3, 20, 108, -1, 4, 5, 125);
        still.like(0, 0, 50);
        round(still, 0, 3, 30, 162, 0, 1, 4, 125);
        for (int prints = 1; prints <= 4; prints++) {
            VanShows alike = office(2, 1, prints);
            Check.terms(alike, "fuel 0;");
            // the first two choices by order: prints 0 and 1 at village 0, or print 0 at both villages
            round(alike, 0, 2, 20, 108, 0, prints > 1 ? 1 : 4, -1, (2 * prints + 1) * (2 * prints + 1));
        }
        Check.says("4 times the VILLAGE and the PRINT (NONE: none)");
        VanShows last = new VanShows();
        for (int i = 0; i < 8; i++) {
            last.village(2, 500, 0, 0);
        }
        last.like(7, 3, 100);
        last.van(7);
        for (int i = 0; i < 4; i++) {
            last.print(i, 0, 10, 0, 0, 4, 0);
        }
        round(last, 0, 1, 2, 11, 31, -1, -1, 33);
    }

    /** The search puts its entries behind a row that is full already. */
    private static void fullRow() {
        Check.says("(Its ENTRIES come behind all others'.)");
        VanShows x = office(3, 2, 0);
        x.print(0, 0, 10, 0, 0, 4, 0);
        x.print(0, 0, 10, 1, 0, 4, 0);
        for (int i = 0; i < 24; i++) {
            x.entry(i % 4, 1, 0, 1);
        }
        Check.due("full", x.entry(0, 0, 0, 0), -1);
        // van 1 has its 10 heads at 0 in some night, whether van 0 takes one of them or not
        round(x, 0, 3, 40, 215, 0, 4, 8, 343);
        Check.due("the row stays", x.count(5), 24);
        Check.due("shown(23, ..)", x.shown(23, 0, 0), 6);
        Check.due("no more entries", x.shown(24, 0, 0), -1);
    }

    public static void main(String[] args) {
        arguments();
        spent();
        nothing();
        emptyRounds();
        amongOthers();
        order();
        fullRow();
        Check.end();
    }
}
