/** The edges named for EXPECTED: 'Terms' 1 and 3, promise 20. */
public final class ChanceEdgesTest {
    private static final long ONE = 65536;
    private static final long TWO = 4294967296L;

    /** One show in each told night at village 1, to which a pass leads; the van is at 0 ahead of each. */
    private static VanShows office(int chance, int... nights) {
        VanShows x = new VanShows();
        x.village(200, 500, 0, 0);
        x.village(200, 500, 0, 0);
        x.road(0, 1, 10, chance);
        x.van(0);
        x.print(0, 0, 10, 0, 0, 4, 0);
        for (int night : nights) {
            x.entry(night, 0, 1, 0);
        }
        return x;
    }

    private static void powers() {
        Check.says("told as a number by 16 to the (4 times how many PASSES there are).");
        VanShows x = office(0, 0);
        Check.due("no pass", x.expected(3), 1);
        Check.due("shows", x.expected(2), 1);
        Check.due("heads", x.expected(0), 100);
        Check.due("profit", x.expected(1), x.run(0, 1));
        x.road(0, 1, 10, 1);
        Check.due("one pass", x.expected(3), ONE);
        Check.due("a pass that isn't needed", x.expected(2), ONE);
        Check.due("heads", x.expected(0), 100 * ONE);
        x.road(0, 1, 10, 15);
        Check.due("two passes", x.expected(3), TWO);
        Check.due("passes that aren't needed", x.expected(2), TWO);
        Check.due("heads", x.expected(0), 100 * TWO);
        Check.due("profit", x.expected(1), x.run(0, 1) * TWO);
        x.road(0, 1, 10, 15);
        Check.due("a third is refused", x.expected(3), TWO);
    }

    private static void chances() {
        Check.says("SHUT in a NIGHT with a chance of 1 .. 15 of 16, each NIGHT and PASS by itself.");
        for (int chance = 1; chance < 16; chance++) {
            for (int night = 0; night < 4; night++) {
                VanShows x = office(chance, night);
                Check.due("shows, shut by " + chance + " in " + night, x.expected(2), (16 - chance) * (ONE / 16));
                Check.due("heads, shut by " + chance + " in " + night, x.expected(0), 100 * (16 - chance) * (ONE / 16));
            }
            // it comes there in night 0 or else in night 3; in night 3 no road is needed if it is there
            VanShows x = office(chance, 0, 3);
            long open = 16 - chance;
            Check.due("two nights by themselves", x.expected(2), 2 * open * (ONE / 16) + chance * open * (ONE / 256));
            VanShows all = office(chance, 0, 1, 2, 3);
            long shows = 4 * open * 4096 + 3 * chance * open * 256 + 2 * chance * chance * open * 16
                + (long) chance * chance * chance * open;
            Check.due("four nights", all.expected(2), shows);
        }
        Check.says("EXPECTED: over all ways in which the PASSES may be SHUT in the 4 NIGHTS, the sum of what a RUN gives times the"
            + " chance of that way");
        for (int first = 1; first < 16; first += 7) {
            for (int second = 1; second < 16; second += 7) {
                VanShows x = office(first);
                x.village(400, 500, 0, 0);
                x.road(1, 2, 20, second);
                x.entry(1, 0, 2, 0);
                long open = (16L - first) * (16 - second);
                Check.due("both must be open", x.expected(2), open * (TWO / 256));
                Check.due("heads", x.expected(0), 200 * open * (TWO / 256));
                // 2000 coins less 800 and 120, and 15 for fuel
                Check.due("profit", x.expected(1), 1065 * open * (TWO / 256));
            }
        }
    }

    private static void losses() {
        Check.says("EXPECTED, what 0: HEADS, 1: PROFIT, 2: SHOWS; 3: 16 to that power. Long.MIN_VALUE: no such what.");
        VanShows x = office(15, 3);
        x.road(0, 1, 100, 15);
        for (int i = 0; i < 3; i++) {
            x.print(0, 0, 10, 0, 1, 0, 999);
        }
        Check.terms(x, "price 0;fuel 0;");
        // 3 late if a pass is open in night 3, else 4; each of the three prints
        long shut = 225 * (TWO / 256);
        Check.due("what is lost", x.expected(1), -999 * 3 * (4 * shut + 3 * (TWO - shut)));
        int[] beyond = {Integer.MIN_VALUE, -1, 4, Integer.MAX_VALUE};
        for (int what : beyond) {
            Check.due("expected(" + what + ")", x.expected(what), Long.MIN_VALUE);
        }
        for (int what = 0; what < 3; what++) {
            Check.due("of a new office", new VanShows().expected(what), 0);
        }
        Check.due("16 to the power 0", new VanShows().expected(3), 1);
    }

    /** Far above what an int holds: 24 shows with two passes. */
    private static void most() {
        Check.says("EXPECTED, what 0: HEADS, 1: PROFIT, 2: SHOWS; 3: 16 to that power.");
        VanShows x = new VanShows();
        for (int i = 0; i < 6; i++) {
            x.village(999, 250, 0, 0);
            x.like(i, 0, 100);
            if (i % 2 == 1) {
                x.road(i - 1, i, 1, 0);
            }
        }
        x.road(0, 2, 1, 7);
        x.road(0, 4, 1, 9);
        for (int van = 0; van < 3; van++) {
            x.van(2 * van);
            x.print(0, 0, 10, van, 0, 4, 0);
        }
        for (int i = 0; i < 24; i++) {
            x.entry(i / 6, i % 6 / 2, i % 6, i % 6 / 2);
        }
        Check.terms(x, "price 999;renter 0;parish 0;fuel 0;");
        Check.due("shows", x.expected(2), 24 * TWO);
        Check.due("heads", x.expected(0), (6 * 999) * TWO);
        Check.due("profit", x.expected(1), (6 * 999 * 999) * TWO);
    }

    public static void main(String[] args) {
        powers();
        chances();
        losses();
        most();
        Check.end();
    }
}
