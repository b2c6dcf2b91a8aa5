import java.util.NoSuchElementException;

/** Promises 5 to 12, 26 and 27: villages, roads, vans, prints, eggs, ways, looks and counts. */
public final class GroundTest {
    private static final int MIN = Integer.MIN_VALUE;
    private static final int MAX = Integer.MAX_VALUE;

    private static int looked(VanShows x, int village, int what) {
        try {
            return x.look(village, what);
        } catch (IndexOutOfBoundsException e) {
            return -1001;
        } catch (NoSuchElementException e) {
            return -1002;
        }
    }

    private static void villages() {
        VanShows x = new VanShows();
        int[][] wrong = {{0, 1, 0, 0}, {1000, 1, 0, 0}, {1, 0, 0, 0}, {1, 501, 0, 0}, {1, 1, -1, 0}, {1, 1, 10, 0},
            {1, 1, 0, -1}, {1, 1, 0, 101}, {MIN, 1, 0, 0}, {1, MAX, 0, 0}};
        for (int[] w : wrong) {
            Check.due("wrong village", x.village(w[0], w[1], w[2], w[3]), -1);
        }
        Check.due("least village", x.village(1, 1, 0, 0), 0);
        Check.due("greatest village", x.village(999, 500, 9, 100), 1);
        int[] greatest = {999, 500, 9, 100, 50, 50, 50, 50};
        for (int what = 0; what < 8; what++) {
            Check.due("look(1, " + what + ")", looked(x, 1, what), greatest[what]);
        }
        Check.due("look(2, 0)", looked(x, 2, 0), -1001);
        Check.due("look(-1, 0)", looked(x, -1, 0), -1001);
        Check.due("look(MAX, 99)", looked(x, MAX, 99), -1001);
        Check.due("look(0, 8)", looked(x, 0, 8), -1002);
        Check.due("look(0, -1)", looked(x, 0, -1), -1002);
        Check.due("like(0, 0, 0)", x.like(0, 0, 0), true);
        Check.due("like(0, 3, 100)", x.like(0, 3, 100), true);
        Check.due("like(2, 0, 1)", x.like(2, 0, 1), false);
        Check.due("like(-1, 0, 1)", x.like(-1, 0, 1), false);
        Check.due("like(0, 4, 1)", x.like(0, 4, 1), false);
        Check.due("like(0, -1, 1)", x.like(0, -1, 1), false);
        Check.due("like(0, 0, 101)", x.like(0, 0, 101), false);
        Check.due("like(0, 0, -1)", x.like(0, 0, -1), false);
        Check.due("look(0, 4)", looked(x, 0, 4), 0);
        Check.due("look(0, 5)", looked(x, 0, 5), 50);
        Check.due("look(0, 7)", looked(x, 0, 7), 100);
        for (int i = 2; i < 8; i++) {
            Check.due("village " + i, x.village(9, 9, 9, 9), i);
        }
        Check.due("a ninth village", x.village(9, 9, 9, 9), -1);
        Check.due("count(0)", x.count(0), 8);
    }

    private static VanShows land(int villages) {
        VanShows x = new VanShows();
        for (int i = 0; i < villages; i++) {
            x.village(100, 50, 0, 0);
        }
        return x;
    }

    private static void roads() {
        VanShows x = land(4);
        int[][] wrong = {{0, 0, 5, 0}, {-1, 0, 5, 0}, {0, 4, 5, 0}, {4, 0, 5, 0}, {0, 1, 0, 0}, {0, 1, 601, 0},
            {0, 1, 5, -1}, {0, 1, 5, 16}, {MIN, MAX, 5, 0}};
        for (int[] w : wrong) {
            Check.due("wrong road", x.road(w[0], w[1], w[2], w[3]), -1);
        }
        Check.due("no way yet", x.way(0, 1, 0), -1);
        Check.due("road", x.road(0, 1, 600, 0), 0);
        Check.due("first pass", x.road(1, 0, 100, 15), 1);
        Check.due("second pass", x.road(0, 2, 1, 1), 2);
        Check.due("a third pass", x.road(0, 3, 1, 1), -1);
        Check.due("no third pass, but a road", x.road(2, 1, 200, 0), 3);
        int[] ways = {100, 201, 100, 600};
        for (int shut = 0; shut < 4; shut++) {
            Check.due("way(0, 1, " + shut + ")", x.way(0, 1, shut), ways[shut]);
            Check.due("way(1, 0, " + shut + ")", x.way(1, 0, shut), ways[shut]);
            Check.due("way(3, 3, " + shut + ")", x.way(3, 3, shut), 0);
            Check.due("way(0, 3, " + shut + ")", x.way(0, 3, shut), -1);
        }
        Check.due("way round", x.way(0, 2, 2), 300);
        Check.due("way(0, 1, 4)", x.way(0, 1, 4), -1);
        Check.due("way(0, 1, -1)", x.way(0, 1, -1), -1);
        Check.due("way(0, 4, 0)", x.way(0, 4, 0), -1);
        Check.due("way(-1, 0, 0)", x.way(-1, 0, 0), -1);
        for (int i = 4; i < 14; i++) {
            Check.due("road " + i, x.road(0, 1, 600, 0), i);
        }
        Check.due("a fifteenth road", x.road(0, 1, 600, 0), -1);
        Check.due("count(1)", x.count(1), 14);
        Check.due("count(2)", x.count(2), 2);
        VanShows one = land(2);
        one.road(0, 1, 7, 3);
        Check.due("a pass that there isn't isn't looked at", one.way(0, 1, 2), 7);
        Check.due("the pass that there is is", one.way(0, 1, 3), -1);
    }

    private static void vans() {
        VanShows x = land(2);
        Check.due("van(2)", x.van(2), -1);
        Check.due("van(-1)", x.van(-1), -1);
        Check.due("broken(0, 1)", x.broken(0, 1), false);
        for (int i = 0; i < 3; i++) {
            Check.due("van " + i, x.van(i % 2), i);
        }
        Check.due("a fourth van", x.van(0), -1);
        Check.due("count(3)", x.count(3), 3);
        Check.due("broken(2, 15)", x.broken(2, 15), true);
        Check.due("broken(2, 0)", x.broken(2, 0), true);
        Check.due("broken(2, 16)", x.broken(2, 16), false);
        Check.due("broken(2, -1)", x.broken(2, -1), false);
        Check.due("broken(3, 1)", x.broken(3, 1), false);
        Check.due("broken(-1, 1)", x.broken(-1, 1), false);
        Check.due("where(0, 3, 0)", x.where(0, 3, 0), 0);
        Check.due("where(1, 3, 0)", x.where(1, 3, 0), 1);
    }

    private static void prints() {
        VanShows x = land(2);
        x.van(0);
        int[][] wrong = {{-1, 0, 10, 0, 0, 0, 0}, {4, 0, 10, 0, 0, 0, 0}, {0, -1, 10, 0, 0, 0, 0}, {0, 19, 10, 0, 0, 0, 0},
            {0, 0, 9, 0, 0, 0, 0}, {0, 0, 241, 0, 0, 0, 0}, {0, 0, 10, -1, 0, 0, 0}, {0, 0, 10, 1, 0, 0, 0},
            {0, 0, 10, 0, -1, 0, 0}, {0, 0, 10, 0, 2, 0, 0}, {0, 0, 10, 0, 0, -1, 0}, {0, 0, 10, 0, 0, 5, 0},
            {0, 0, 10, 0, 0, 0, -1}, {0, 0, 10, 0, 0, 0, 1000}};
        for (int[] w : wrong) {
            Check.due("wrong print", x.print(w[0], w[1], w[2], w[3], w[4], w[5], w[6]), -1);
        }
        Check.due("least print", x.print(0, 0, 10, 0, 0, 0, 0), 0);
        Check.due("greatest print", x.print(3, 18, 240, 0, 1, 4, 999), 1);
        Check.due("print 2", x.print(3, 18, 240, 0, 1, 3, 999), 2);
        Check.due("print 3", x.print(3, 18, 240, 0, 1, 3, 999), 3);
        Check.due("a fifth print", x.print(0, 0, 10, 0, 0, 0, 0), -1);
        Check.due("count(4)", x.count(4), 4);
    }

    private static void eggs() {
        VanShows x = new VanShows();
        Check.due("egg(0, 1)", x.egg(0, 1), true);
        Check.due("egg(3, 99)", x.egg(3, 99), true);
        Check.due("egg(4, 1)", x.egg(4, 1), false);
        Check.due("egg(-1, 1)", x.egg(-1, 1), false);
        Check.due("egg(0, 0)", x.egg(0, 0), false);
        Check.due("egg(0, 100)", x.egg(0, 100), false);
    }

    public static void main(String[] args) {
        villages();
        roads();
        vans();
        prints();
        eggs();
        VanShows x = new VanShows();
        Check.due("count(11)", x.count(11), -1);
        Check.due("count(-1)", x.count(-1), -1);
        Check.end();
    }
}
