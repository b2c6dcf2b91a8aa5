/** Promises 2 to 4, and KNOTS, night and fuel of 27: the tape, the language, its faults. */
public final class TermsTest {
    private static void tape() {
        VanShows x = new VanShows();
        for (int i = 1; i <= 25; i++) {
            Check.due("feed " + i, x.feed(0x20202020, 0x20202020, 0x0a0a0a0a, 0x20202020, 0x20202020), 20 * i);
        }
        Check.due("feed 26", x.feed(0, 0, 0, 0, 0), -1);
        Check.due("terms(501)", x.terms(501), -2);
        Check.due("terms(-1)", x.terms(-1), -2);
        Check.due("terms(MIN)", x.terms(Integer.MIN_VALUE), -2);
        Check.due("terms(500)", x.terms(500), 0);
        Check.due("terms(1) when it is empty", x.terms(1), -2);
        // the highest byte first: "fuel 7;" and then what isn't asked for
        Check.due("feed", x.feed(0x6675656c, 0x20373b21, -1, -1, -1), 20);
        Check.due("terms(7)", x.terms(7), 1);
        Check.due("fuel", x.count(9), 7);
        Check.due("the rest is gone too", x.feed(0, 0, 0, 0, 0), 20);
        Check.due("a byte 0 is no token", x.terms(20), -1);
        Check.due("fault(0)", x.fault(0), 1);
        Check.due("fault(1)", x.fault(1), 0);
        Check.due("fault(2)", x.fault(2), -1);
        Check.due("fault(-1)", x.fault(-1), -1);
        Check.due("terms(3)", x.terms(3), -2);
        Check.due("the fault of what was not -2 stays", x.fault(0), 1);
        Check.due("terms(0)", x.terms(0), 0);
        Check.due("then there is none", x.fault(0), 0);
        Check.due("and no place", x.fault(1), -1);
    }

    private static void lines() {
        VanShows x = new VanShows();
        Check.taken(x, "night 60;fuel 99;", 2);
        Check.due("night", x.count(8), 60);
        Check.due("fuel", x.count(9), 99);
        Check.due("knots", x.count(10), 0);
        Check.taken(x, "night900;\n fuel 000 ;eggs\n1 ;", 3);
        Check.due("night", x.count(8), 900);
        Check.due("fuel", x.count(9), 0);
        Check.due("knots", x.count(10), 1);
        Check.taken(x, "eggs 1;parish 2;renter 3;price 4;allow 5;fuel 6;night 70;", 7);
        Check.due("knots", x.count(10), 5);
        Check.faulty(x, "night 80;fuel 7;price", 1, 21);
        Check.due("with a fault the terms stay: night", x.count(8), 70);
        Check.due("with a fault the terms stay: fuel", x.count(9), 6);
        Check.due("with a fault the terms stay: knots", x.count(10), 5);
        Check.taken(x, "", 0);
        Check.due("without a line: night", x.count(8), 600);
        Check.due("without a line: fuel", x.count(9), 5);
        Check.due("without a line: knots", x.count(10), 0);
    }

    private static void places() {
        VanShows x = new VanShows();
        Check.faulty(x, ";", 1, 0);
        Check.faulty(x, "  heads 1;", 1, 2);
        Check.faulty(x, "Night 60;", 1, 0);
        Check.faulty(x, "nights 60;", 1, 0);
        Check.faulty(x, "nigh 60;", 1, 0);
        Check.faulty(x, "pricez 1;", 1, 0);
        Check.faulty(x, "aprice 1;", 1, 0);
        Check.faulty(x, "price`1;", 1, 5);
        Check.faulty(x, "price{1;", 1, 5);
        Check.faulty(x, "night 60", 1, 8);
        Check.faulty(x, "night 60   ", 1, 11);
        Check.faulty(x, "night", 1, 5);
        Check.faulty(x, "night (60);", 1, 6);
        Check.faulty(x, "night 60 + 1;", 1, 9);
        Check.faulty(x, "night 901;", 2, 6);
        Check.faulty(x, "fuel 99999999999999999999999999;", 2, 5);
        Check.faulty(x, "fuel -1;", 1, 5);
        Check.faulty(x, "price\t1;", 1, 5);
        Check.faulty(x, "price 1\r;", 1, 7);
        Check.faulty(x, "price \u00e9;", 1, 6);
        Check.faulty(x, "price ;", 1, 6);
        Check.faulty(x, "price 1 2;", 1, 8);
        Check.faulty(x, "price 1 like;", 1, 8);
        Check.faulty(x, "price 1);", 1, 7);
        Check.faulty(x, "price (1;", 1, 8);
        Check.faulty(x, "price ();", 1, 7);
        Check.faulty(x, "price 1+;", 1, 8);
        Check.faulty(x, "price +1;", 1, 6);
        Check.faulty(x, "price 1 not 2;", 1, 8);
        Check.faulty(x, "price 1 + not 2;", 1, 10);
        Check.faulty(x, "price 1 < not 2;", 1, 10);
        Check.faulty(x, "price - not 2;", 1, 8);
        Check.faulty(x, "price 1 < = 2;", 1, 10);
        Check.faulty(x, "price 1 =< 2;", 1, 9);
        Check.faulty(x, "price 1 >< 2;", 1, 9);
        Check.faulty(x, "price 1 <=> 2;", 1, 10);
        Check.faulty(x, "price 1 < 2 + 3 = 4;", 1, 16);
        Check.faulty(x, "price 1 or and 2;", 1, 11);
        Check.faulty(x, "price notlike;", 1, 6);
        Check.faulty(x, "price 1;price 2;", 3, 8);
        Check.faulty(x, "price 1; fuel 2;price", 3, 16);
        Check.faulty(x, "allow 1 + heads;", 4, 10);
        Check.faulty(x, "price (heads);", 4, 7);
        Check.faulty(x, "price 1 heads;", 1, 8);
        Check.faulty(x, "price 1 100000;", 1, 8);
        Check.faulty(x, "price 100000 heads;", 2, 6);
        Check.taken(x, "price 99999;", 1);
        Check.taken(x, "price 0000000000000000000000099999;", 1);
        Check.taken(x, "price 1<=2;allow not-1<>2;eggs(1<2)<3;renter 5;", 4);
        Check.taken(x, "allow not not 1 and not 2=3 or - -4;", 1);
        Check.due("knots", x.count(10), 12);
        Check.taken(x, "renter heads;parish heads;eggs heads;", 3);
    }

    private static void limits() {
        VanShows x = new VanShows();
        Check.taken(x, "price ((((((((1))))))));", 1);
        Check.due("brackets are no knots", x.count(10), 1);
        Check.taken(x, "price ((((((((1))))))))+(1);eggs ((((((((1))))))));", 2);
        Check.faulty(x, "price (1)+((((((((( 1;", 2, 18);
        Check.faulty(x, "price ((((((((1(", 1, 15);
        // 31 times "1+" and "1" are 63 knots
        String most = "price 1" + Check.times("+1", 31);
        Check.taken(x, most + ";fuel 3;allow 1;", 3);
        Check.due("knots", x.count(10), 64);
        Check.faulty(x, most + ";allow 1;eggs 1;", 2, 83);
        Check.faulty(x, most + ";allow -1;", 2, 77);
        Check.faulty(x, most + ";renter 1;allow heads;", 2, 85);
        Check.faulty(x, most + ";renter 1;allow x;", 1, 85);
        Check.taken(x, "allow " + Check.times("not ", 63) + "1;", 1);
        Check.faulty(x, "allow " + Check.times("not ", 64) + "1;", 2, 262);
        Check.taken(x, "allow " + Check.times("-", 63) + "1;", 1);
        Check.faulty(x, "allow " + Check.times("-", 65) + "1;", 2, 70);
        Check.faulty(x, "allow " + Check.times("-(", 9) + "1;", 2, 23);
    }

    public static void main(String[] args) {
        tape();
        lines();
        places();
        limits();
        Check.end();
    }
}
