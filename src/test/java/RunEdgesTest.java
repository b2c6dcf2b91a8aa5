/** The edges named for entries, hands and runs: 'Terms' 3 but for EXPECTED, promises 13 to 19. */
public final class RunEdgesTest {
    /** Vans and villages with all roads open to each other, 10 minutes each; a print in each van. */
    private static VanShows office(int villages, int vans, int prints) {
        VanShows x = new VanShows();
        for (int i = 0; i < villages; i++) {
            x.village(100, 500, 0, 0);
            if (i > 0) {
                x.road(i - 1, i, 10, 0);
            }
        }
        for (int i = 0; i < vans; i++) {
            x.van(i % villages);
        }
        for (int i = 0; i < prints; i++) {
            x.print(0, 0, 10, i % vans, 0, 4, 0);
        }
        return x;
    }

    private static void entryNumbers() {
        Check.says("THE ROW: ENTRIES, at most 24, numbered from 0 on, each a NIGHT, a VAN, a VILLAGE and a PRINT");
        VanShows x = office(8, 3, 4);
        for (int i = 0; i < 24; i++) {
            Check.due("count ahead of entry " + i, x.count(5), i);
            Check.due("entry " + i, x.entry(i % 4, i % 3, i % 8, i % 4), i);
        }
        Check.due("a 25th", x.entry(0, 0, 0, 0), -1);
        Check.due("count", x.count(5), 24);
        Check.due("the last one is asked for", x.shown(23, 0, 0) >= 0, true);
        Check.due("the 25th isn't there", x.shown(24, 0, 0), -1);
        x.clear(0);
        Check.due("there is room again", x.entry(0, 0, 0, 0), 16);
        Check.says("An ENTRY: its number; NONE: no such NIGHT, VAN, VILLAGE, PRINT, or there are 24.");
        Check.range("night", 0, 3, 0, -1, n -> office(8, 3, 4).entry(n, 0, 0, 0));
        Check.range("van of 3", 0, 2, 0, -1, n -> office(8, 3, 4).entry(0, n, 0, 0));
        Check.range("van of 1", 0, 0, 0, -1, n -> office(8, 1, 4).entry(0, n, 0, 0));
        Check.range("village of 8", 0, 7, 0, -1, n -> office(8, 3, 4).entry(0, 0, n, 0));
        Check.range("village of 1", 0, 0, 0, -1, n -> office(1, 1, 1).entry(0, 0, n, 0));
        Check.range("print of 4", 0, 3, 0, -1, n -> office(8, 3, 4).entry(0, 0, 0, n));
        Check.range("print of 1", 0, 0, 0, -1, n -> office(8, 3, 1).entry(0, 0, 0, n));
        Check.due("no print", office(1, 1, 0).entry(0, 0, 0, 0), -1);
        Check.due("nothing", new VanShows().entry(0, 0, 0, 0), -1);
    }

    private static void handNumbers() {
        Check.says("HANDS, at most 12: a NIGHT, a PRINT, a VAN that gets it.");
        VanShows x = office(1, 3, 4);
        for (int i = 0; i < 12; i++) {
            Check.due("count ahead of hand " + i, x.count(6), i);
            Check.due("hand " + i, x.hand(i % 4, i % 4, i % 3), i);
        }
        Check.due("a 13th", x.hand(3, 0, 0), -1);
        Check.due("count", x.count(6), 12);
        x.clear(0);
        Check.due("hands aren't cleared with a van", x.count(6), 12);
        x.clear(-1);
        Check.due("there is room again", x.hand(0, 0, 0), 0);
        Check.says("A HAND: its number; NONE: no such NIGHT, PRINT, VAN, or there are 12.");
        Check.range("night", 0, 3, 0, -1, n -> office(1, 3, 4).hand(n, 0, 0));
        Check.range("print of 4", 0, 3, 0, -1, n -> office(1, 3, 4).hand(0, n, 0));
        Check.range("print of 1", 0, 0, 0, -1, n -> office(1, 3, 1).hand(0, n, 0));
        Check.range("van of 3", 0, 2, 0, -1, n -> office(1, 3, 4).hand(0, 0, n));
        Check.range("van of 1", 0, 0, 0, -1, n -> office(1, 1, 4).hand(0, 0, n));
        // the twelfth and last one is gone through too
        VanShows y = office(1, 3, 2);
        for (int i = 0; i < 11; i++) {
            y.hand(0, 0, 0);
        }
        y.hand(3, 1, 2);
        Check.due("the twelfth", y.printed(1, 0, 0), 2);
    }

    private static void clears() {
        Check.says("No ENTRIES (of one VAN; NONE: of all, and no HANDS): how many ENTRIES went (those left are numbered anew, in"
            + " order); -2: no such VAN.");
        VanShows x = office(3, 3, 3);
        Check.due("of all, when there are none", x.clear(-1), 0);
        Check.due("of one, when there are none", x.clear(2), 0);
        int[][] row = {{0, 0, 0}, {0, 1, 1}, {1, 2, 0}, {1, 0, 2}, {2, 1, 2}, {3, 0, 0}};
        for (int[] e : row) {
            x.entry(e[0], e[1], e[2], e[1]);
        }
        x.hand(0, 0, 0);
        int[] beyond = {Integer.MIN_VALUE, -3, -2, 3, 4, Integer.MAX_VALUE};
        for (int van : beyond) {
            Check.due("clear(" + van + ")", x.clear(van), -2);
            Check.due("entries stay", x.count(5), 6);
            Check.due("hands stay", x.count(6), 1);
        }
        // entries 1, 2 and 4 are left: minutes on roads tell which they are
        Check.due("clear(0)", x.clear(0), 3);
        Check.due("entries", x.count(5), 3);
        Check.due("hands", x.count(6), 1);
        Check.due("clear(0) again", x.clear(0), 0);
        int[] minutes = {0, 20, 10};
        for (int i = 0; i < 3; i++) {
            Check.due("cause of " + i, x.shown(i, 0, 0), 0);
            Check.due("minutes of " + i, x.shown(i, 0, 6), minutes[i]);
        }
        Check.due("no entry 3", x.shown(3, 0, 0), -1);
        x.entry(3, 2, 1, 2);
        Check.due("the next is 3: from village 0 to 1", x.shown(3, 0, 6), 10);
        Check.due("clear(1)", x.clear(1), 2);
        Check.due("what was 1 is 0 now", x.shown(0, 0, 6), 20);
        Check.due("what was 3 is 1 now", x.shown(1, 0, 6), 10);
        Check.due("clear(-1)", x.clear(-1), 2);
        Check.due("entries", x.count(5), 0);
        Check.due("hands", x.count(6), 0);
        Check.due("no van", new VanShows().clear(0), -2);
        Check.due("no van, of all", new VanShows().clear(-1), 0);
    }

    /** Every set of causes at once: the least of them is told. */
    private static void firstCause() {
        Check.says("CAUSES for which an ENTRY is passed over (the VAN stays where it is), the first one that holds: 1 the VAN is"
            + " BROKEN; 2 it had two SHOWS in this NIGHT; 3 the PRINT isn't in it; 4 there is no way; 5 its minutes of this NIGHT"
            + " on ROADS and of SHOWS would be more than night; 6 the VILLAGE had a SHOW in this NIGHT; 7 it isn't ALLOWED.");
        for (int set = 0; set < 128; set++) {
            VanShows x = new VanShows();
            for (int i = 0; i < 5; i++) {
                x.village(100, 500, 0, 0);
            }
            x.road(0, 4, 10, 0);
            x.road(1, 2, 10, 0);
            x.road(2, 3, 10, 0);
            x.road(1, 4, 5, 8);
            x.van(0);
            x.van(1);
            x.print(0, 0, 10, 1, 0, 4, 0);
            x.print(0, 0, 200, 1, 0, 4, 0);
            x.print(0, 0, 200, 0, 0, 4, 0);
            x.print(0, 0, 10, 0, 0, 4, 0);
            x.broken(1, set % 2);
            if ((set >> 1) % 2 == 1) {
                x.entry(0, 1, 2, 0);
                x.entry(0, 1, 3, 0);
            }
            int asked = x.entry(0, 1, 4, (set >> 2) % 2 == 1 ? 2 : 1);
            int shut = (set >> 3) % 2;
            Check.terms(x, ((set >> 4) % 2 == 1 ? "night 100;" : "night 900;")
                + ((set >> 6) % 2 == 1 ? "allow minutes<200;" : ""));
            if ((set >> 5) % 2 == 1) {
                x.entry(0, 0, 4, 3);
            }
            int due = set == 0 ? 0 : Integer.numberOfTrailingZeros(set) + 1;
            Check.due("cause by the set " + set, x.shown(asked, shut, 0), due);
            Check.due("it goes there, or stays", x.where(1, 0, shut) == 4, due == 0);
            for (int what = 1; what < 7 && due != 0; what++) {
                Check.due("shown(.., " + what + ") by the set " + set, x.shown(asked, shut, what), 0);
            }
        }
    }

    private static void twoShows() {
        Check.says("Then VAN by VAN, its ENTRIES of the NIGHT in order, at most two SHOWS");
        VanShows x = office(4, 2, 2);
        for (int village = 0; village < 4; village++) {
            x.entry(1, 0, village, 0);
        }
        x.entry(2, 0, 3, 0);
        int[] due = {0, 0, 2, 2, 0};
        for (int i = 0; i < due.length; i++) {
            Check.due("cause of " + i, x.shown(i, 0, 0), due[i]);
        }
        Check.due("another van has two of its own", x.entry(1, 1, 2, 1), 5);
        Check.due("cause", x.shown(5, 0, 0), 0);
        // what is passed over is no show: the first two of the row's four can't be
        VanShows y = office(4, 2, 2);
        y.entry(1, 0, 1, 1);
        y.entry(1, 0, 2, 1);
        y.entry(1, 0, 2, 0);
        y.entry(1, 0, 3, 0);
        y.entry(1, 0, 0, 0);
        int[] later = {3, 3, 0, 0, 2};
        for (int i = 0; i < later.length; i++) {
            Check.due("cause of " + i, y.shown(i, 0, 0), later[i]);
        }
        Check.due("minutes from where it stayed", y.shown(2, 0, 6), 20);
        // van 0 comes ahead of van 1, whatever the order of the entries
        VanShows z = office(2, 2, 2);
        z.entry(0, 1, 0, 1);
        z.entry(0, 0, 0, 0);
        Check.due("van 1 told first", z.shown(0, 0, 0), 6);
        Check.due("van 0 told last", z.shown(1, 0, 0), 0);
    }

    private static void driving() {
        Check.says("it goes from where it is by ROADS that aren't SHUT, the fewest minutes in all, to the VILLAGE, and shows.");
        VanShows x = new VanShows();
        for (int i = 0; i < 4; i++) {
            x.village(100, 500, 0, 0);
        }
        // from 0 to 3: 100 straight on, 50 and 49 by 1 over the first pass, 20 and 30 by 2 over the second
        x.road(0, 3, 100, 0);
        x.road(0, 1, 50, 0);
        x.road(1, 3, 49, 3);
        x.road(3, 2, 20, 5);
        x.road(2, 0, 30, 0);
        x.van(0);
        x.print(0, 0, 10, 0, 0, 4, 0);
        x.entry(0, 0, 3, 0);
        x.entry(0, 0, 0, 0);
        x.entry(1, 0, 3, 0);
        x.entry(1, 0, 3, 0);
        x.entry(3, 0, 3, 0);
        x.entry(3, 0, 2, 0);
        int[] minutes = {50, 50, 99, 100};
        for (int first = 0; first < 4; first++) {
            for (int second = 0; second < 4; second++) {
                int shut = first + 4 * second;
                int[] due = {minutes[first], minutes[first], minutes[second], 0, 0, 20};
                for (int i = 0; i < due.length; i++) {
                    Check.due("minutes of " + i + ", shut " + shut, x.shown(i, shut, 6), due[i]);
                }
                int all = 2 * minutes[first] + minutes[second] + 20;
                Check.due("fuel", x.run(shut, 3), all / 2);
            }
        }
        Check.due("the second pass shut in the last night", x.shown(5, 128, 6), 119 + 10);
        Check.says("A RUN, given which PASSES are SHUT in which NIGHTS: NIGHT by NIGHT:");
        // told in another order of the nights: the nights go ahead of the row's order, within a night the row's order holds
        VanShows y = office(3, 1, 1);
        y.entry(3, 0, 2, 0);
        y.entry(0, 0, 1, 0);
        y.entry(0, 0, 2, 0);
        y.entry(1, 0, 0, 0);
        int[] due = {20, 10, 10, 20};
        int[] where = {2, 0, 0, 2};
        for (int i = 0; i < 4; i++) {
            Check.due("minutes of " + i, y.shown(i, 0, 6), due[i]);
            Check.due("where in night " + i, y.where(0, i, 0), where[i]);
        }
    }

    private static void facts() {
        Check.says("Of an ENTRY in a RUN in which");
        Check.says("what 0: its CAUSE (0: it is a SHOW), 1: HEADS, 2: TAKEN, 3: the renter's, 4: the parish's, 5: eggs, 6: minutes on"
            + " ROADS to it.");
        VanShows x = office(2, 1, 1);
        Check.terms(x, "price 8;renter 50;parish 25;eggs 10;");
        x.egg(0, 3);
        x.entry(0, 0, 1, 0);
        x.entry(0, 0, 1, 0);
        int[][] due = {{0, 50, 400, 200, 50, 15, 10}, {6, 0, 0, 0, 0, 0, 0}};
        for (int i = 0; i < 2; i++) {
            for (int what = 0; what < 7; what++) {
                Check.due("shown(" + i + ", 0, " + what + ")", x.shown(i, 0, what), due[i][what]);
            }
        }
        // an entry that was a show in another run is none in this one, and tells nothing of it
        x.broken(0, 1);
        for (int what = 1; what < 7; what++) {
            Check.due("of none", x.shown(0, 0, what), 0);
        }
    }

    /** From 0 to 1 and then to 2, 10 minutes each, with shows of 50 and 60: 130 in all. */
    private static void nightMinutes() {
        Check.says("5 its minutes of this NIGHT on ROADS and of SHOWS would be more than night");
        int[][] due = {{900, 0, 0}, {131, 0, 0}, {130, 0, 0}, {129, 0, 5}, {61, 0, 5}, {60, 0, 5}};
        for (int[] d : due) {
            VanShows x = office(3, 1, 0);
            x.print(0, 0, 50, 0, 0, 4, 0);
            x.print(0, 0, 60, 0, 0, 4, 0);
            x.entry(0, 0, 1, 0);
            x.entry(0, 0, 2, 1);
            x.entry(1, 0, 1, 0);
            Check.terms(x, "night " + d[0] + ";");
            Check.due("first show, night " + d[0], x.shown(0, 0, 0), d[1]);
            Check.due("second show, night " + d[0], x.shown(1, 0, 0), d[2]);
            Check.due("a night later all begins anew", x.shown(2, 0, 0), 0);
        }
        // one show alone, at both sides of the edge
        for (int night = 60; night < 63; night++) {
            VanShows x = office(2, 1, 0);
            x.print(0, 0, 51, 0, 0, 4, 0);
            x.entry(0, 0, 1, 0);
            Check.terms(x, "night " + night + ";");
            Check.due("61 minutes, night " + night, x.shown(0, 0, 0), night < 61 ? 5 : 0);
            Check.due("minutes on roads", x.shown(0, 0, 6), night < 61 ? 0 : 10);
        }
        // what is passed over costs no minutes
        VanShows x = office(3, 1, 0);
        x.print(0, 0, 240, 0, 0, 4, 0);
        x.print(0, 0, 50, 0, 0, 4, 0);
        x.entry(0, 0, 2, 0);
        x.entry(0, 0, 1, 1);
        Check.terms(x, "night 60;");
        Check.due("too long", x.shown(0, 0, 0), 5);
        Check.due("60 minutes are left", x.shown(1, 0, 0), 0);
        Check.due("only those of the show count for fuel", x.run(0, 3), 5);
    }

    private static void oneShowAVillage() {
        Check.says("6 the VILLAGE had a SHOW in this NIGHT");
        VanShows x = office(1, 2, 2);
        x.entry(0, 0, 0, 0);
        x.entry(0, 0, 0, 0);
        x.entry(0, 1, 0, 1);
        x.entry(1, 1, 0, 1);
        int[] due = {0, 6, 6, 0};
        for (int i = 0; i < due.length; i++) {
            Check.due("cause of " + i, x.shown(i, 0, 0), due[i]);
        }
        x.broken(0, 1);
        int[] broken = {1, 1, 0, 0};
        for (int i = 0; i < broken.length; i++) {
            Check.due("one that was passed over is no show: " + i, x.shown(i, 0, 0), broken[i]);
        }
        // each of eight villages by itself
        VanShows y = office(8, 1, 1);
        for (int village = 0; village < 8; village++) {
            y.clear(-1);
            y.entry(2, 0, village, 0);
            y.entry(2, 0, village, 0);
            Check.due("first at " + village, y.shown(0, 0, 0), 0);
            Check.due("second at " + village, y.shown(1, 0, 0), 6);
        }
    }

    private static void handedOn() {
        Check.says("First the HANDS of the NIGHT, in order: if the VAN in which the PRINT is and that which gets it are at one"
            + " VILLAGE, and neither is BROKEN in this NIGHT, the PRINT is in the other one (a HAND that can't be does nothing).");
        for (int night = 0; night < 4; night++) {
            for (int brokenVan = -1; brokenVan < 3; brokenVan++) {
                for (int nights = 0; nights < 16; nights++) {
                    VanShows x = office(1, 3, 1);
                    x.hand(night, 0, 1);
                    if (brokenVan >= 0) {
                        x.broken(brokenVan, nights);
                    }
                    boolean can = brokenVan < 0 || brokenVan == 2 || (nights >> night) % 2 == 0;
                    Check.due("handed in " + night + ", van " + brokenVan + " broken in " + nights,
                        x.printed(0, 0, 0), can ? 1 : 0);
                }
            }
        }
        VanShows x = office(2, 2, 2);
        x.hand(0, 0, 1);
        Check.due("they aren't at one village", x.printed(0, 0, 0), 0);
        x.entry(1, 0, 1, 0);
        x.hand(1, 0, 1);
        Check.due("in the night in which they meet it is too early", x.printed(0, 0, 0), 0);
        x.hand(2, 0, 1);
        Check.due("a night later they are", x.printed(0, 0, 0), 1);
        x.hand(2, 0, 1);
        Check.due("to the van in which it is", x.printed(0, 0, 0), 1);
        x.hand(2, 0, 0);
        Check.due("and back", x.printed(0, 0, 0), 0);
        VanShows y = office(1, 3, 1);
        y.hand(0, 0, 1);
        y.hand(0, 0, 2);
        y.entry(0, 0, 0, 0);
        y.entry(0, 2, 0, 0);
        Check.due("on and on in one night, in order", y.printed(0, 0, 0), 2);
        Check.due("ahead of the shows: it isn't in the first", y.shown(0, 0, 0), 3);
        Check.due("ahead of the shows: it is in the last", y.shown(1, 0, 0), 0);
        // in the order of the nights, not in which they were told
        VanShows z = office(1, 3, 1);
        z.hand(3, 0, 1);
        z.hand(0, 0, 2);
        Check.due("the later night's comes last", z.printed(0, 0, 0), 1);
    }

    private static void heads() {
        Check.says("HEADS of a SHOW: PEOPLE times like by 100, cut, less all HEADS of this PRINT at this VILLAGE ahead (0 at"
            + " least), but at most SEATS.");
        int[][] due = {{1, 0, 0}, {1, 99, 0}, {1, 100, 1}, {199, 50, 99}, {200, 50, 100}, {201, 50, 100}, {999, 100, 500},
            {999, 50, 499}, {999, 1, 9}, {3, 33, 0}, {3, 34, 1}};
        for (int[] d : due) {
            VanShows x = new VanShows();
            x.village(d[0], 500, 0, 0);
            x.like(0, 0, d[1]);
            x.van(0);
            x.print(0, 0, 10, 0, 0, 4, 0);
            x.entry(0, 0, 0, 0);
            Check.due("heads of " + d[0] + " people, like " + d[1], x.shown(0, 0, 1), d[2]);
            Check.due("it is a show", x.run(0, 2), 1);
        }
        // 100 heads in all: by seats they come in one night or in several, and then none
        int[][] seats = {{101, 100, 0, 0, 0}, {100, 100, 0, 0, 0}, {99, 99, 1, 0, 0}, {51, 51, 49, 0, 0}, {50, 50, 50, 0, 0},
            {49, 49, 49, 2, 0}, {25, 25, 25, 25, 25}, {1, 1, 1, 1, 1}};
        for (int[] s : seats) {
            VanShows x = new VanShows();
            x.village(200, s[0], 0, 0);
            x.van(0);
            x.print(0, 0, 10, 0, 0, 4, 0);
            for (int night = 0; night < 4; night++) {
                x.entry(night, 0, 0, 0);
            }
            for (int night = 0; night < 4; night++) {
                Check.due("heads with " + s[0] + " seats in night " + night, x.shown(night, 0, 1), s[night + 1]);
            }
        }
        // another print, or another village, has all of them; another van that shows the same print hasn't
        VanShows x = office(2, 2, 2);
        x.entry(0, 0, 0, 0);
        x.entry(0, 0, 1, 0);
        x.entry(1, 1, 0, 1);
        x.entry(2, 0, 0, 0);
        x.hand(3, 0, 1);
        x.entry(3, 1, 0, 0);
        int[] others = {50, 50, 50, 0, 0};
        for (int i = 0; i < others.length; i++) {
            Check.due("cause of " + i, x.shown(i, 0, 0), 0);
            Check.due("heads of " + i, x.shown(i, 0, 1), others[i]);
        }
    }

    /** One show of 99 heads at a price of 7. */
    private static void coins() {
        Check.says("TAKEN: HEADS times PRICE. Of the HEADS EGGS of 100, cut, pay in eggs: PRICE by the egg's price of that NIGHT"
            + " (1 .. 99; 1 at first), upwards, eggs each.");
        int[][] each = {{0, 1, 0}, {0, 99, 0}, {1, 99, 1}, {98, 99, 1}, {99, 99, 1}, {100, 99, 2}, {198, 99, 2}, {199, 99, 3},
            {999, 1, 999}, {999, 2, 500}, {998, 2, 499}, {10, 9, 2}, {10, 10, 1}, {10, 11, 1}};
        for (int[] e : each) {
            VanShows x = new VanShows();
            x.village(2, 500, 0, 0);
            x.van(0);
            x.print(0, 0, 10, 0, 0, 4, 0);
            x.entry(3, 0, 0, 0);
            x.egg(3, e[1]);
            Check.terms(x, "eggs 100;price " + e[0] + ";");
            Check.due("eggs for " + e[0] + " at " + e[1], x.shown(0, 0, 5), e[2]);
            Check.due("taken is coin all the same", x.shown(0, 0, 2), e[0]);
        }
        int[][] parts = {{0, 0, 0, 0}, {1, 0, 6, 6}, {2, 1, 13, 13}, {33, 32, 228, 153}, {50, 49, 346, 173}, {99, 98, 686, 6},
            {100, 99, 693, 0}};
        for (int[] p : parts) {
            VanShows x = new VanShows();
            x.village(99, 500, 0, 0);
            x.like(0, 0, 100);
            x.van(0);
            x.print(0, 0, 10, 0, 0, 4, 0);
            x.entry(0, 0, 0, 0);
            x.egg(0, 7);
            Check.terms(x, "price 7;eggs " + p[0] + ";renter " + p[0] + ";parish " + p[0] + ";");
            Check.due("who pay in eggs, of 99 with " + p[0], x.shown(0, 0, 5), p[1]);
            Check.says("To the renter: TAKEN times RENTER by 100, cut; to the parish: what is left then times PARISH by 100,"
                + " cut.");
            Check.due("the renter's, " + p[0], x.shown(0, 0, 3), p[2]);
            Check.due("the parish's, " + p[0], x.shown(0, 0, 4), p[3]);
            Check.due("profit", x.run(0, 1), 693 - p[2] - p[3]);
        }
    }

    private static void fuel() {
        Check.says("FUEL: minutes on ROADS times fuel by 10, cut once for each VAN over all NIGHTS.");
        int[][] due = {{1, 9, 0}, {1, 10, 1}, {1, 11, 1}, {3, 3, 0}, {3, 4, 1}, {19, 1, 1}, {20, 1, 2}, {600, 99, 5940},
            {600, 0, 0}};
        for (int[] d : due) {
            VanShows x = new VanShows();
            x.village(100, 500, 0, 0);
            x.village(100, 500, 0, 0);
            x.road(0, 1, d[0], 0);
            x.van(0);
            x.print(0, 0, 10, 0, 0, 4, 0);
            x.entry(0, 0, 1, 0);
            Check.terms(x, "night 900;price 0;fuel " + d[1] + ";");
            Check.due("fuel of " + d[0] + " minutes, " + d[1] + " a ten", x.run(0, 3), d[2]);
            Check.due("profit", x.run(0, 1), -d[2]);
        }
        // two vans go three times by 3 minutes, 27 tenths each, one twice, 18 tenths
        VanShows x = office(1, 3, 3);
        int[] homeward = {1, 2, 3};
        for (int van = 0; van < 3; van++) {
            x.village(100, 500, 0, 0);
            x.road(0, van + 1, 3, 0);
            x.entry(0, van, van + 1, van);
            x.entry(homeward[van], van, 0, van);
            if (homeward[van] < 3) {
                x.entry(homeward[van] + 1, van, van + 1, van);
            }
        }
        Check.terms(x, "price 0;fuel 3;");
        Check.due("shows", x.run(0, 2), 8);
        Check.due("fuel", x.run(0, 3), 2 + 2 + 1);
        Check.due("profit", x.run(0, 1), -5);
    }

    private static void backAndLate() {
        Check.says("A PRINT is BACK at the end of the first NIGHT in which its VAN is at its HOME; LATE: by how many NIGHTS that is"
            + " behind DUE (4 less DUE, if it isn't BACK at all; 0 for DUE 4).");
        int[] fines = {0, 1, 998, 999};
        for (int back = 0; back <= 4; back++) {
            for (int due = 0; due <= 4; due++) {
                int late = due == 4 ? 0 : Math.max(back - due, 0);
                for (int fine : fines) {
                    VanShows x = office(2, 1, 0);
                    x.print(0, 0, 10, 0, 1, due, fine);
                    if (back < 4) {
                        x.entry(back, 0, 1, 0);
                    }
                    Check.terms(x, "price 0;fuel 0;");
                    Check.due("back in " + back, x.printed(0, 0, 1), back < 4 ? back : -1);
                    Check.due("back in " + back + ", due " + due, x.printed(0, 0, 2), late);
                    Check.due("fines", x.run(0, 1), -late * fine);
                }
            }
        }
        // back in night 0 and away again: the first night counts
        VanShows x = office(2, 2, 1);
        x.print(0, 0, 10, 1, 0, 0, 9);
        x.entry(1, 0, 1, 0);
        Check.due("at home at first", x.printed(0, 0, 1), 0);
        Check.due("not late, though away", x.printed(0, 0, 2), 0);
        // through its home in a night, but not there at its end
        VanShows y = office(3, 1, 0);
        y.print(0, 0, 10, 0, 1, 0, 9);
        y.entry(0, 0, 1, 0);
        y.entry(0, 0, 2, 0);
        y.entry(3, 0, 0, 0);
        Check.due("a show at home, but the night ended elsewhere", y.printed(0, 0, 1), -1);
        Check.due("late", y.printed(0, 0, 2), 4);
        // handed to a van that is at its home
        VanShows z = office(2, 2, 0);
        z.print(0, 0, 10, 0, 0, 0, 9);
        z.print(0, 0, 10, 0, 1, 1, 9);
        z.entry(1, 1, 0, 0);
        Check.due("home of print 1 is where van 1 is", z.printed(1, 0, 1), -1);
        z.clear(-1);
        z.entry(0, 0, 1, 0);
        z.hand(1, 0, 1);
        z.entry(1, 0, 0, 1);
        Check.due("print 1 was back with van 0 in night 0", z.printed(1, 0, 1), 0);
        Check.due("print 0 stays with van 1 and isn't back", z.printed(0, 0, 1), -1);
        Check.due("print 0 is 4 late", z.printed(0, 0, 2), 4);
        Check.due("print 0 is in van 1", z.printed(0, 0, 0), 1);
    }

    private static void profits() {
        Check.says("PROFIT: all TAKEN, less what renters and parishes get, less FUEL, less LATE times FINE of all PRINTS.");
        // the most that can be lost: four prints of 999, 4 nights late
        VanShows x = office(2, 1, 0);
        for (int i = 0; i < 4; i++) {
            x.print(0, 0, 10, 0, 1, 0, 999);
        }
        Check.due("lost", x.run(0, 1), -4 * 4 * 999);
        // the most that can be won: 24 shows of 500 heads at 999
        VanShows y = new VanShows();
        for (int i = 0; i < 6; i++) {
            y.village(999, 500, 0, 0);
            y.like(i, 0, 100);
            if (i > 0) {
                y.road(i - 1, i, 1, 0);
            }
        }
        for (int van = 0; van < 3; van++) {
            y.van(2 * van);
        }
        for (int i = 0; i < 4; i++) {
            y.print(0, 0, 10, Math.min(i, 2), 0, 4, 999);
        }
        Check.terms(y, "price 999;renter 0;parish 0;eggs 100;fuel 0;");
        for (int i = 0; i < 24; i++) {
            y.entry(i / 6, i % 6 / 2, i % 6, i % 6 / 2);
        }
        Check.due("shows", y.run(0, 2), 24);
        int heads = 6 * 999;
        Check.due("heads", y.run(0, 0), heads);
        Check.due("profit", y.run(0, 1), heads * 999);
        Check.due("eggs", y.run(0, 4), heads * 999);
        Check.due("most of one show", y.shown(0, 0, 2), 499500);
        Check.due("eggs of one show", y.shown(0, 0, 5), 499500);
    }

    /** Village 1 by the first pass and 2 by the second, nothing else. */
    private static VanShows passes(int passes, int night, int village) {
        VanShows x = new VanShows();
        for (int i = 0; i < 3; i++) {
            x.village(100, 500, 0, 0);
        }
        x.road(0, 1, 10, passes > 0 ? 4 : 0);
        x.road(0, 2, 10, passes > 1 ? 4 : 0);
        x.van(0);
        x.print(0, 0, 10, 0, village, 3, 5);
        x.entry(night, 0, village, 0);
        return x;
    }

    private static void shutBits() {
        Check.says("PASSES are SHUT by bits (0 .. 255: bit 2 times the NIGHT and the PASS; those of PASSES that there aren't"
            + " aren't looked at)");
        for (int passes = 0; passes < 3; passes++) {
            for (int night = 0; night < 4; night++) {
                for (int village = 1; village < 3; village++) {
                    VanShows x = passes(passes, night, village);
                    for (int shut = 0; shut < 256; shut++) {
                        boolean is = village <= passes && (shut >> (2 * night + village - 1)) % 2 == 1;
                        Check.due(passes + " passes, night " + night + ", village " + village + ", shut " + shut,
                            x.shown(0, shut, 0), is ? 4 : 0);
                    }
                    int all = 1 << (2 * night + village - 1);
                    boolean shuts = village <= passes;
                    Check.due("run", x.run(all, 2), shuts ? 0 : 1);
                    Check.due("run", x.run(255 - all, 2), x.run(0, 2));
                    Check.due("where", x.where(0, 3, all), shuts ? 0 : village);
                    Check.due("where", x.where(0, night, 255 - all), village);
                    Check.due("printed", x.printed(0, all, 1), shuts ? -1 : night);
                    Check.due("printed", x.printed(0, 255 - all, 1), night);
                }
            }
        }
        Check.says("(1 .. 6 of one that is none: 0.) NONE: no such ones.");
        VanShows none = passes(1, 0, 1);
        for (int what = 1; what < 7; what++) {
            Check.due("what " + what + " of one that is none", none.shown(0, 1, what), 0);
        }
        Check.range("shut of shown", 0, 255, 0, -1, n -> passes(0, 0, 1).shown(0, n, 0));
        Check.range("what of shown", 0, 6, 0, -1, n -> Math.min(passes(0, 0, 1).shown(0, 0, n), 0));
        Check.range("entry of 1", 0, 0, 0, -1, n -> passes(0, 0, 1).shown(n, 0, 0));
        Check.due("no entry", office(1, 1, 1).shown(0, 0, 0), -1);
    }

    private static void runs() {
        Check.says("Of such a RUN, what 0: HEADS of all, 1: PROFIT, 2: SHOWS, 3: FUEL of all VANS, 4: eggs. Integer.MIN_VALUE: no"
            + " such ones.");
        Check.range("shut of run", 0, 255, 1, Integer.MIN_VALUE, n -> passes(0, 0, 1).run(n, 2));
        int[] due = {50, 265, 1, 5, 0};
        for (int what = 0; what < 5; what++) {
            Check.due("run(0, " + what + ")", passes(0, 0, 1).run(0, what), due[what]);
        }
        int[] beyond = {Integer.MIN_VALUE, -1, 5, Integer.MAX_VALUE};
        for (int what : beyond) {
            Check.due("run(0, " + what + ")", passes(0, 0, 1).run(0, what), Integer.MIN_VALUE);
        }
        for (int what = 0; what < 5; what++) {
            Check.due("of an empty row", new VanShows().run(0, what), 0);
        }
        Check.says("Of a VAN at the end of a NIGHT of such a RUN: its VILLAGE; NONE: no such ones.");
        Check.range("van of 3", 0, 2, 0, -1, n -> office(1, 3, 0).where(n, 0, 0));
        Check.range("van of 1", 0, 0, 0, -1, n -> office(1, 1, 0).where(n, 0, 0));
        Check.range("night", 0, 3, 0, -1, n -> office(1, 1, 0).where(0, n, 0));
        Check.range("shut", 0, 255, 0, -1, n -> office(1, 1, 0).where(0, 0, n));
        Check.due("no van", office(1, 0, 0).where(0, 0, 0), -1);
        Check.says("Of a PRINT by such a RUN, what 0: the VAN in which it is at the end, 1: the NIGHT at the end of which it is"
            + " BACK first (NONE), 2: LATE, 3: how many SHOWS it had. NONE: no such ones.");
        Check.range("print of 4", 0, 3, 0, -1, n -> office(1, 1, 4).printed(n, 0, 0));
        Check.range("print of 1", 0, 0, 0, -1, n -> office(1, 1, 1).printed(n, 0, 0));
        Check.range("shut", 0, 255, 0, -1, n -> office(1, 1, 1).printed(0, n, 0));
        Check.range("what", 0, 3, 0, -1, n -> office(1, 1, 1).printed(0, 0, n));
        Check.due("no print", office(1, 1, 0).printed(0, 0, 0), -1);
        VanShows x = office(2, 1, 2);
        for (int i = 0; i < 8; i++) {
            Check.due("shows of print 0", x.printed(0, 0, 3), i);
            x.entry(i / 2, 0, i % 2, 0);
        }
        x.entry(0, 0, 0, 0);
        Check.due("the most shows that a van can have", x.printed(0, 0, 3), 8);
        Check.due("shows of print 1", x.printed(1, 0, 3), 0);
    }

    public static void main(String[] args) {
        entryNumbers();
        handNumbers();
        clears();
        firstCause();
        twoShows();
        driving();
        facts();
        nightMinutes();
        oneShowAVillage();
        handedOn();
        heads();
        coins();
        fuel();
        backAndLate();
        profits();
        shutBits();
        runs();
        Check.end();
    }
}
