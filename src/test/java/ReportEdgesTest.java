/** The edges named for reports, strikes and ends: 'Terms' 5, promises 23 to 25. */
public final class ReportEdgesTest {
    /** Shows: village 0 (40 seats) in night 0, village 1 (70 seats) in night 3; a pass between them. */
    private static VanShows office() {
        VanShows x = new VanShows();
        x.village(100, 40, 0, 0);
        x.village(100, 70, 0, 0);
        x.road(0, 1, 10, 8);
        x.van(0);
        x.print(0, 0, 10, 0, 0, 4, 0);
        x.entry(0, 0, 0, 0);
        x.entry(3, 0, 1, 0);
        return x;
    }

    private static VanShows notes(int n) {
        VanShows x = office();
        for (int i = 0; i < n; i++) {
            x.report(0, 0, i);
        }
        return x;
    }

    private static void numbers() {
        Check.says("REPORTS, at most 40 NOTES with STRIKES, numbered from 0 on: of a VILLAGE and a NIGHT so many heads (0 .. 500).");
        Check.range("heads", 0, 500, 0, -1, n -> office().report(0, 0, n));
        VanShows x = office();
        for (int i = 0; i < 40; i++) {
            Check.due("count ahead of note " + i, x.count(7), i);
            Check.due("note " + i, i % 3 == 2 ? x.strike(i - 1) : x.report(0, 0, i), i);
        }
        Check.due("a 41st report", x.report(0, 0, 1), -1);
        Check.due("a 41st strike", x.strike(0), -1);
        Check.due("count", x.count(7), 40);
        // note 39 is a report of 39, the last one
        Check.ends(x, 40, 39, 109, 1);
        Check.says("A REPORT: its NOTE's number; NONE: no such VILLAGE, NIGHT, number, or there are 40.");
        Check.range("village", 0, 1, 0, -1, n -> office().report(n, 0, 1));
        Check.range("night", 0, 3, 0, -1, n -> office().report(0, n, 1));
        Check.due("no village", new VanShows().report(0, 0, 1), -1);
        Check.due("39 notes", notes(39).report(0, 0, 1), 39);
        Check.due("40 notes", notes(40).report(0, 0, 1), -1);
        Check.says("A NOTE is STRUCK: this NOTE's number; NONE: no such one, or there are 40.");
        Check.range("note of 5", 0, 4, 5, -1, n -> notes(5).strike(n));
        Check.range("note of 1", 0, 0, 1, -1, n -> notes(1).strike(n));
        Check.range("note of 39", 0, 38, 39, -1, n -> notes(39).strike(n));
        Check.range("note of 40", 0, 39, -1, -1, n -> notes(40).strike(n));
        Check.due("no note", office().strike(0), -1);
        Check.due("not itself", notes(5).strike(5), -1);
    }

    private static void known() {
        Check.says("As KNOWN by n: the first n NOTES, without those STRUCK by one of these (a STRIKE may be STRUCK: then it doesn't"
            + " count; asked from the last one on).");
        VanShows x = office();
        Check.ends(x, 0, 0, 110, 2);
        x.report(0, 0, 7);
        Check.ends(x, 0, 0, 110, 2);
        Check.ends(x, 1, 7, 77, 1);
        x.strike(0);
        Check.ends(x, 1, 7, 77, 1);
        Check.ends(x, 2, 0, 110, 2);
        // a chain of strikes, each of the one ahead: by turns it counts and doesn't
        for (int i = 1; i < 39; i++) {
            Check.due("strike(" + i + ")", x.strike(i), i + 1);
            boolean counts = (i + 1) % 2 == 0;
            Check.ends(x, i + 2, counts ? 7 : 0, counts ? 77 : 110, counts ? 1 : 2);
        }
        Check.due("full", x.strike(39), -1);
        Check.ends(x, 1, 7, 77, 1);
        Check.ends(x, 2, 0, 110, 2);
        Check.ends(x, 3, 7, 77, 1);
        // two strikes of one note: both must be struck
        VanShows y = office();
        y.report(0, 0, 7);
        y.strike(0);
        y.strike(0);
        y.strike(1);
        Check.ends(y, 4, 0, 110, 2);
        y.strike(2);
        Check.ends(y, 5, 7, 77, 1);
        Check.ends(y, 4, 0, 110, 2);
    }

    private static void latest() {
        Check.says("ENDS of the heads of all SHOWS of the RUN with no PASS SHUT: of one of which there is a REPORT that counts the"
            + " latest one's number; else from 0 to SEATS.");
        VanShows x = office();
        x.report(0, 0, 0);
        Check.ends(x, 1, 0, 70, 1);
        x.report(0, 0, 500);
        Check.ends(x, 2, 500, 570, 1);
        x.report(1, 3, 500);
        Check.ends(x, 3, 1000, 1000, 0);
        x.report(0, 0, 3);
        Check.ends(x, 4, 503, 503, 0);
        x.strike(3);
        Check.ends(x, 5, 1000, 1000, 0);
        x.strike(0);
        Check.ends(x, 6, 1000, 1000, 0);
        x.strike(1);
        Check.ends(x, 7, 500, 540, 1);
        // of villages and nights without a show
        VanShows y = office();
        for (int i = 0; i < 8; i++) {
            boolean shown = i == 0 || i == 7;
            if (!shown) {
                y.report(i / 4, i % 4, 100);
            }
        }
        Check.ends(y, 6, 0, 110, 2);
        // an entry that is passed over is no show; one of a shut pass is asked for with no pass shut
        y.entry(0, 0, 0, 0);
        y.report(0, 0, 5);
        Check.ends(y, 7, 5, 75, 1);
        y.broken(0, 1);
        Check.ends(y, 7, 0, 70, 1);
        y.broken(0, 15);
        Check.ends(y, 7, 0, 0, 0);
        Check.due("a row without shows", y.run(0, 2), 0);
        // a pass ahead of each show, in all nights: none of them is shut here
        for (int night = 0; night < 4; night++) {
            for (int village = 1; village < 3; village++) {
                VanShows w = new VanShows();
                for (int i = 0; i < 3; i++) {
                    w.village(100, 10 + i, 0, 0);
                }
                w.road(0, 1, 10, 15);
                w.road(0, 2, 10, 15);
                w.van(0);
                w.print(0, 0, 10, 0, 0, 4, 0);
                w.entry(night, 0, village, 0);
                Check.ends(w, 0, 0, 10 + village, 1);
            }
        }
        // at all villages and in all nights, by the seats that there are then
        VanShows z = new VanShows();
        for (int i = 0; i < 8; i++) {
            z.village(100, i == 0 ? 1 : 500, 0, 0);
            if (i > 0) {
                z.road(i - 1, i, 1, 0);
            }
        }
        z.van(0);
        z.print(0, 0, 10, 0, 0, 4, 0);
        for (int i = 0; i < 8; i++) {
            z.entry(i / 2, 0, i, 0);
        }
        Check.ends(z, 0, 0, 1 + 7 * 500, 8);
        for (int i = 0; i < 8; i++) {
            z.report(i, i / 2, 1 << i);
            Check.ends(z, i + 1, (2 << i) - 1, (2 << i) - 1 + (7 - i) * 500, 7 - i);
        }
    }

    private static void asked() {
        Check.says("ENDS as KNOWN by n, what 0: the least, 1: the greatest, 2: how many SHOWS have no REPORT. NONE: no such n, what.");
        Check.range("n of 5", 0, 5, 0, -1, n -> Math.min(notes(5).ends(n, 2), 0));
        Check.range("n of 40", 0, 40, 0, -1, n -> Math.min(notes(40).ends(n, 2), 0));
        Check.range("n of none", 0, 0, 2, -1, n -> office().ends(n, 2));
        Check.due("n 0 of 5", notes(5).ends(0, 2), 2);
        int[] due = {4, 74, 1};
        for (int what = 0; what < 3; what++) {
            Check.due("what " + what, notes(5).ends(5, what), due[what]);
            Check.due("of a new office", new VanShows().ends(0, what), 0);
            Check.due("of a new office", new VanShows().ends(1, what), -1);
        }
        int[] beyond = {Integer.MIN_VALUE, -1, 3, Integer.MAX_VALUE};
        for (int what : beyond) {
            Check.due("what " + what, notes(5).ends(5, what), -1);
        }
        // a report of 0 heads is a report
        VanShows x = office();
        x.report(0, 0, 0);
        x.report(1, 3, 0);
        Check.ends(x, 2, 0, 0, 0);
    }

    public static void main(String[] args) {
        numbers();
        known();
        latest();
        asked();
        Check.end();
    }
}
