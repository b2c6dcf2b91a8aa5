/** What expressions come to, seen by a show's price, renter, parish, eggs and whether it is allowed. */
public final class ValuesTest {
    private static VanShows office(String text) {
        VanShows x = new VanShows();
        x.village(400, 100, 7, 30);
        x.like(0, 2, 80);
        x.van(0);
        x.print(2, 12, 90, 0, 0, 4, 0);
        x.entry(0, 0, 0, 0);
        Check.due("lines of '" + text + "'", Check.terms(x, text) >= 0, true);
        return x;
    }

    private static void price(String expression, int due) {
        VanShows x = office("price " + expression + ";");
        Check.due("heads", x.shown(0, 0, 1), 100);
        Check.due("price " + expression, x.shown(0, 0, 2), 100L * due);
    }

    private static void allowed(String expression, boolean due) {
        VanShows x = office("allow " + expression + ";");
        Check.due("allow " + expression, x.shown(0, 0, 0), due ? 0 : 7);
    }

    private static void names() {
        price("people", 400);
        price("seats", 100);
        price("strict", 7);
        price("child", 30);
        price("like", 80);
        price("genre", 2);
        price("age", 12);
        price("minutes", 90);
        price("night", 0);
        price("worn", 0);
        VanShows x = office("price night*10+worn;renter heads-60;parish heads/4;eggs heads+1;");
        x.entry(2, 0, 0, 0);
        x.like(0, 2, 30);
        Check.due("price in night 2 with one show ahead", x.shown(1, 0, 2), 20 * 21);
        Check.due("heads left", x.shown(1, 0, 1), 20);
        Check.due("renter below 0", x.shown(1, 0, 3), 0);
        Check.due("parish 5", x.shown(1, 0, 4), 21);
        Check.due("eggs 21 of 100: 4 pay 21 eggs", x.shown(1, 0, 5), 84);
        Check.due("eggs above 100", x.shown(0, 0, 5), 0);
    }

    private static void signs() {
        price("2+3*4", 14);
        price("(2+3)*4", 20);
        price("20-3-4", 13);
        price("100/7/2", 7);
        price("100-7*3%4", 99);
        price("-7/2+10", 7);
        price("-7%4+10", 7);
        price("7%-4", 3);
        price("7/-2+10", 7);
        price("- -5", 5);
        price("--5*-2+20", 10);
        price("5-(-5)", 10);
        price("3<4", 1);
        price("(4<3)+(4<=4)*2+(4=4)*4+(4<>4)*8+(4>=5)*16+(5>4)*32", 38);
        price("1+1=2", 1);
        price("not 0", 1);
        price("not 5", 0);
        price("not 5=4", 1);
        price("not 1 or 1", 1);
        price("not(1 or 1)", 0);
        price("7 and -7", 1);
        price("0 or 0 and 1 or 7", 1);
        price("1 or 0 and 0", 1);
        price("(1 or 0)and 0", 0);
        price("1<2 and 3<4", 1);
        price("(1<2)<2", 1);
    }

    private static void cuts() {
        price("999", 999);
        price("1000", 999);
        price("99999*99999", 999);
        price("-1", 0);
        price("1/0", 0);
        price("1%0", 0);
        price("0*(1/0)+5", 0);
        price("1 or 1/0", 0);
        price("0 and 1/0", 0);
        // 10 to the 12 is no error, one more is
        price("10000*10000*10000/10000/10000/10000", 1);
        price("(10000*10000*10000+1)*0+5", 0);
        price("(-10000*10000*10000-1)*0+5", 0);
        price("-10000*10000*10000*0+5", 5);
        price("(99999*99999*99)*(99999*99999*99)*0+5", 0);
        price("-(99999*99999*99)*(99999*99999*99)*0+5", 0);
        allowed("1", true);
        allowed("-1", true);
        allowed("0", false);
        allowed("1/0", false);
        allowed("10000*10000*10000*2", false);
        allowed("age>=12 and strict<8", true);
        VanShows x = office("renter 101;parish 50;");
        Check.due("renter is cut to 100", x.shown(0, 0, 3), 1000);
        Check.due("nothing is left for the parish", x.shown(0, 0, 4), 0);
        x = office("renter 1/0;parish 1%0;eggs 5/0;");
        Check.due("renter of an error", x.shown(0, 0, 3), 0);
        Check.due("parish of an error", x.shown(0, 0, 4), 0);
        Check.due("eggs of an error", x.shown(0, 0, 5), 0);
        x = office("");
        Check.due("renter without a line", x.shown(0, 0, 3), 400);
        Check.due("parish without a line", x.shown(0, 0, 4), 60);
        x = office("price 7;renter 33;parish 33;");
        Check.due("renter, cut", x.shown(0, 0, 3), 231);
        Check.due("parish, cut", x.shown(0, 0, 4), 154);
    }

    public static void main(String[] args) {
        names();
        signs();
        cuts();
        Check.end();
    }
}
