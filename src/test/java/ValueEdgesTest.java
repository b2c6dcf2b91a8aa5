/** The edges named for what expressions come to: 'Terms' 2. */
public final class ValueEdgesTest {
    private static final String MOST = "10000*10000*10000";

    /** One show of 100 heads in night 0, under a text. */
    private static VanShows show(String text) {
        VanShows x = new VanShows();
        x.village(200, 500, 5, 30);
        x.van(0);
        x.print(0, 12, 90, 0, 0, 4, 0);
        x.entry(0, 0, 0, 0);
        Check.due("has '" + text + "' no fault", Check.terms(x, text) >= 0, true);
        return x;
    }

    private static void price(String expression, int due) {
        Check.due("price " + expression, show("price " + expression + ";").shown(0, 0, 2), 100L * due);
    }

    private static void renter(String expression, int due) {
        Check.due("renter " + expression, show("renter " + expression + ";").shown(0, 0, 3), 10L * due);
    }

    private static void parish(String expression, int due) {
        Check.due("parish " + expression, show("renter 0;parish " + expression + ";").shown(0, 0, 4), 10L * due);
    }

    private static void eggs(String expression, int due) {
        Check.due("eggs " + expression, show("price 1;eggs " + expression + ";").shown(0, 0, 5), due);
    }

    private static void allow(String expression, boolean due) {
        Check.due("allow " + expression, show("allow " + expression + ";").shown(0, 0, 0), due ? 0 : 7);
    }

    private static void comparisons() {
        Check.says("comparisons, and, or, not are 1 or 0 (what isn't 0 is as 1; both sides are worked out)");
        String[] signs = {"<", "<=", "=", "<>", ">=", ">"};
        int[][] due = {{1, 0, 0}, {1, 1, 0}, {0, 1, 0}, {1, 0, 1}, {0, 1, 1}, {0, 0, 1}};
        String[][] sides = {{"4", "5"}, {"5", "5"}, {"6", "5"}};
        String[][] below = {{"-6", "-5"}, {"-5", "-5"}, {"-4", "-5"}};
        String[][] nought = {{"-1", "0"}, {"0", "-0"}, {"1", "0"}};
        for (int i = 0; i < signs.length; i++) {
            for (int k = 0; k < 3; k++) {
                price(sides[k][0] + signs[i] + sides[k][1], due[i][k]);
                price(below[k][0] + signs[i] + below[k][1], due[i][k]);
                price(nought[k][0] + signs[i] + nought[k][1], due[i][k]);
            }
        }
        String[] some = {"-99999", "-1", "0", "1", "2", "99999"};
        for (String a : some) {
            int is = a.equals("0") ? 0 : 1;
            price("not(" + a + ")", 1 - is);
            price("not not(" + a + ")", is);
            for (String b : some) {
                int other = b.equals("0") ? 0 : 1;
                price(a + " and " + b, is * other);
                price(a + " or " + b, Math.max(is, other));
            }
        }
        String[] errors = {"1/0", "1%0", MOST + "+1", "-" + MOST + "-1"};
        for (String error : errors) {
            allow("1 or " + error, false);
            allow(error + " or 1", false);
            price("5+(0 and " + error + ")", 0);
            price("5+(" + error + " and 0)", 0);
            price("5+(1 or " + error + ")", 0);
            price("not(" + error + ")", 0);
            price("5+0*(" + error + ")", 0);
            price("5+(1<" + error + ")", 0);
        }
    }

    private static void divisions() {
        Check.says("/ towards 0, % what is left then");
        int[] some = {-7, -6, -1, 0, 1, 6, 7};
        int[] by = {-7, -3, -2, -1, 1, 2, 3, 7};
        for (int a : some) {
            for (int b : by) {
                price("100+(" + a + ")/(" + b + ")", 100 + a / b);
                price("100+(" + a + ")%(" + b + ")", 100 + a % b);
            }
        }
        Check.says("ERROR: / or % by 0");
        for (int a : some) {
            price("100+(" + a + ")/0", 0);
            price("100+(" + a + ")%0", 0);
            price("100+(" + a + ")/(1-1)", 0);
            allow("1+(" + a + ")%(strict-5)", false);
            allow("10+(" + a + ")/(strict-4)", true);
        }
    }

    private static void mostValues() {
        Check.says("a value above 10 to the 12 or below 0 by more than that");
        price("5+0*(" + MOST + ")", 5);
        price("5+0*(" + MOST + "-1)", 5);
        price("5+0*(" + MOST + "+1)", 0);
        price("5+0*(" + MOST + "+1-1)", 0);
        price("5+0*(-" + MOST + ")", 5);
        price("5+0*(-(" + MOST + "))", 5);
        price("5+0*(-" + MOST + "+1)", 5);
        price("5+0*(-" + MOST + "-1)", 0);
        price("5+0*(1+" + MOST + ")", 0);
        price("5+0*(0-1-" + MOST + ")", 0);
        price("5+0*(" + MOST + "+(" + MOST + "))", 0);
        // a product at the edge: 1000001 * 999999 is a square less one
        price("5+0*((10*99999+10)*(10*99999+10))", 5);
        price("5+0*((10*99999+11)*(10*99999+9))", 5);
        price("5+0*((10*99999+11)*(10*99999+10))", 0);
        price("5+0*((10*99999+10)*(10*99999+11))", 0);
        price("5+0*((10*99999+10)*-(10*99999+10))", 5);
        price("5+0*((10*99999+11)*-(10*99999+10))", 0);
        price("5+0*(-(10*99999+10)*-(10*99999+11))", 0);
        // products that come within by a wrap-around of longs: 2 to the 64 is 0, 2 to the 64 and 2 to the 32 too
        price("5+(65536*65536)*(65536*65536)", 0);
        price("5+(65536*65536*16)*(65536*65536*16)", 0);
        price("5+(65536*65536)*(65536*65536+1)%7", 0);
        price("5+(" + MOST + ")*(" + MOST + ")*0", 0);
        price("5+(" + MOST + ")*-(" + MOST + ")*0", 0);
        Check.says("VALUES are longs");
        price("65536*65536/65536/65536", 1);
        price("(65536*65536+7)%65536", 7);
        price("65536*65536>1", 1);
        price("(99999*99999)/99999-99990", 9);
        allow("65536*65536", true);
        allow(MOST, true);
        allow(MOST + "+1", false);
    }

    private static void cuts() {
        Check.says("ALLOWED: allow is not 0 and no ERROR.");
        allow("-1", true);
        allow("0", false);
        allow("1", true);
        allow("99999", true);
        allow("1/0", false);
        allow("0*99999", false);
        Check.says("PRICE: price, 0 .. 999 (what is beyond is cut to that, an ERROR 0)");
        int[][] prices = {{-99999, 0}, {-1, 0}, {0, 0}, {1, 1}, {998, 998}, {999, 999}, {1000, 999}, {99999, 999}};
        for (int[] p : prices) {
            price("" + p[0], p[1]);
        }
        price(MOST, 999);
        price("-" + MOST, 0);
        price("1/0", 0);
        price("65536*65536", 999);
        price("0-65536*65536+5", 0);
        Check.says("RENTER, PARISH, EGGS: renter, parish, eggs, 0 .. 100 likewise.");
        int[][] parts = {{-99999, 0}, {-1, 0}, {0, 0}, {1, 1}, {99, 99}, {100, 100}, {101, 100}, {99999, 100}};
        for (int[] p : parts) {
            renter("" + p[0], p[1]);
            parish("" + p[0], p[1]);
            eggs("" + p[0], p[1]);
        }
        String[] errors = {"1/0", "1%0", MOST + "+1", "-" + MOST + "-1"};
        for (String error : errors) {
            renter(error, 0);
            parish(error, 0);
            eggs(error, 0);
        }
        renter("65536*65536+1", 100);
        parish("65536*65536+1", 100);
        eggs("65536*65536+1", 100);
    }

    private static void names() {
        Check.says("people, seats, strict, child of the VILLAGE, its like of the PRINT's GENRE");
        int[][] ends = {{1, 1, 0, 0, 100}, {999, 500, 9, 100, 100}};
        String[] of = {"people", "seats", "strict", "child", "like"};
        for (int[] v : ends) {
            for (int k = 0; k < of.length; k++) {
                VanShows x = new VanShows();
                x.village(7, 7, 7, 7);
                x.village(v[0], v[1], v[2], v[3]);
                x.like(1, 3, v[4]);
                x.van(1);
                x.print(3, 0, 10, 0, 0, 4, 0);
                x.entry(0, 0, 1, 0);
                Check.terms(x, "price " + of[k] + ";");
                Check.due(of[k], x.shown(0, 0, 2), Math.min(v[0], v[1]) * v[k]);
            }
        }
        Check.says("night: the NIGHT; worn: how many SHOWS of the PRINT there were ahead; heads: HEADS.");
        VanShows x = new VanShows();
        x.village(100, 10, 0, 0);
        x.village(100, 10, 0, 0);
        x.road(0, 1, 1, 0);
        x.van(0);
        x.print(0, 0, 10, 0, 0, 4, 0);
        x.print(0, 0, 10, 0, 0, 4, 0);
        Check.terms(x, "price 10*night+worn;");
        // two shows a night; the second print is shown once, in night 2, and entries passed over wear nothing
        int[][] row = {{0, 0, 0}, {0, 1, 0}, {0, 0, 0}, {1, 1, 0}, {1, 0, 0}, {2, 0, 1}, {2, 1, 0}, {3, 1, 0}, {3, 0, 1}};
        int[] due = {0, 1, -1, 12, 13, 20, 24, 35, 31};
        for (int i = 0; i < row.length; i++) {
            x.entry(row[i][0], 0, row[i][1], row[i][2]);
        }
        for (int i = 0; i < row.length; i++) {
            Check.due("cause of " + i, x.shown(i, 0, 0), due[i] < 0 ? 2 : 0);
            Check.due("taken of " + i, x.shown(i, 0, 2), Math.max(due[i], 0) * x.shown(i, 0, 1));
        }
        Check.due("heads", show("renter heads;").shown(0, 0, 3), 1000);
        Check.due("heads", show("renter heads-1;").shown(0, 0, 3), 990);
        Check.due("heads", show("renter 0;parish heads/2;").shown(0, 0, 4), 500);
        Check.due("heads", show("price 1;eggs heads/4;").shown(0, 0, 5), 25);
    }

    public static void main(String[] args) {
        comparisons();
        divisions();
        mostValues();
        cuts();
        names();
        Check.end();
    }
}
