/** The edges named for the tape, the text and its faults: 'Terms' 2, promises 2 to 4. */
public final class TextEdgesTest {
    private static final String[] LINES = {"night 60", "fuel 1", "allow 1", "price 1", "renter 1", "parish 1", "eggs 1"};
    private static final String[] NAMES = {"people", "seats", "strict", "child", "like", "genre", "age", "minutes",
        "night", "worn", "heads"};
    private static final String[] COMPARISONS = {"<", "<=", "=", "<>", ">=", ">"};

    /** 63 knots of a price without a line's end. */
    private static final String KNOTS_63 = "price 1" + Check.times("+1", 31);

    private static void fault(String text, int fault, int place) {
        Check.faulty(new VanShows(), text, fault, place);
    }

    private static void fine(String text, int lines) {
        Check.taken(new VanShows(), text, lines);
    }

    private static void knots(String text, int due) {
        VanShows x = new VanShows();
        Check.due("has '" + text + "' no fault", Check.terms(x, text) >= 0, true);
        Check.due("knots of '" + text + "'", x.count(10), due);
    }

    private static void fullTape() {
        Check.says("Twenty bytes come behind the TAPE, four of each number, the highest first: how many it has");
        VanShows x = new VanShows();
        // "pric" "e 12" "34+5" "678;" and four blanks: 1234 and 5678 are 6912
        Check.due("feed", x.feed(0x70726963, 0x65203132, 0x33342b35, 0x3637383b, 0x20202020), 20);
        Check.due("the bytes lie in this order", x.terms(20), 1);
        // "fuel", " 7;" and a byte of 255, and bytes whose highest bit is set
        Check.due("feed", x.feed(0x6675656c, 0x20373bff, -1, Integer.MIN_VALUE, 0x80ffffff), 20);
        Check.due("terms(8)", x.terms(8), -1);
        Check.due("the place of a byte 255", x.fault(1), 7);
        Check.says("NONE, and none come, if it would have more than 500.");
        for (int i = 1; i <= 25; i++) {
            Check.due("feed " + i, x.feed(0x20202020, 0x20202020, 0x20202020, 0x20202020, 0x20202020), 20 * i);
        }
        for (int i = 0; i < 3; i++) {
            Check.due("feed beyond 500", x.feed(0x21212121, 0x21212121, 0x21212121, 0x21212121, 0x21212121), -1);
        }
        Check.due("none came", x.terms(501), -2);
        Check.due("all 500 are blanks", x.terms(500), 0);
        Check.due("it is empty then", x.feed(0, 0, 0, 0, 0), 20);
        // a text that fills the tape to its last byte
        VanShows y = new VanShows();
        Check.feedText(y, Check.times(" ", 493) + "fuel 8;");
        Check.due("a line that ends with the last byte", y.terms(500), 1);
        Check.due("fuel", y.count(9), 8);
        Check.feedText(y, Check.times(" ", 494) + "fuel 8");
        Check.due("a line without its end there", y.terms(500), -1);
        Check.due("place", y.fault(1), 500);
    }

    private static void someBytes() {
        Check.says("The TAPE's first n bytes (it is empty then) are the TERMS: how many LINES; NONE with a FAULT");
        VanShows x = new VanShows();
        Check.feedText(x, "fuel 12;fuel 34;");
        Check.due("terms(8)", x.terms(8), 1);
        Check.due("fuel", x.count(9), 12);
        Check.due("it is empty then", x.terms(1), -2);
        String[] texts = {"fuel 12;", "price 1<=2;", "price 1<>2;", "price 1>=2;", "price notx;", "renter heads;"};
        int[] cuts = {6, 8, 8, 8, 9, 10};
        int[] places = {6, 8, 8, 8, 9, 7};
        for (int i = 0; i < texts.length; i++) {
            Check.feedText(x, texts[i]);
            Check.due("terms(" + cuts[i] + ") of '" + texts[i] + "'", x.terms(cuts[i]), -1);
            Check.due("fault", x.fault(0), 1);
            Check.due("no byte behind the first n is read", x.fault(1), places[i]);
            Check.due("it is empty, with a fault too", x.terms(1), -2);
        }
        Check.feedText(x, "fuel 12;");
        Check.due("terms(0) of a tape with more", x.terms(0), 0);
        Check.due("fuel as without a line", x.count(9), 5);
        Check.due("it is empty then", x.terms(1), -2);
        fine(String.join(";", LINES) + ";", 7);
        fine("", 0);
        fine(" \n", 0);
    }

    private static void tooMany() {
        Check.says("-2, and the TAPE stays: there are not so many, n is below 0.");
        int[] beyond = {Integer.MIN_VALUE, -2, -1, 41, 42, 500, 501, Integer.MAX_VALUE};
        for (int n : beyond) {
            VanShows x = new VanShows();
            Check.feedText(x, "fuel 12;night 77;" + Check.times(" ", 20));
            Check.due("terms(" + n + ") of 40", x.terms(n), -2);
            Check.due("night isn't told", x.count(8), 600);
            Check.due("the tape stays", x.terms(40), 2);
            Check.due("night", x.count(8), 77);
        }
        VanShows x = new VanShows();
        Check.due("terms(1) of none", x.terms(1), -2);
        Check.due("terms(0) of none", x.terms(0), 0);
        Check.feedText(x, "fuel 12;");
        Check.due("terms(21) of 20", x.terms(21), -2);
        Check.due("behind it", x.feed(0x20202020, 0x20202020, 0x20202020, 0x20202020, 0x20202020), 40);
        Check.due("terms(40) of 40", x.terms(40), 1);
    }

    private static void latestFault() {
        Check.says("Of the latest terms() that was not -2, what 0: its FAULT (0), 1: its place (NONE without)."
            + " NONE for another what.");
        VanShows x = new VanShows();
        Check.due("ahead of all terms()", x.fault(0), 0);
        Check.due("ahead of all terms()", x.fault(1), -1);
        Check.faulty(x, "fuel 100;", 2, 5);
        Check.due("one that is -2", x.terms(1), -2);
        Check.due("its fault stays", x.fault(0), 2);
        Check.due("its place stays", x.fault(1), 5);
        Check.due("one that is -2", x.terms(-1), -2);
        Check.due("its fault stays", x.fault(0), 2);
        Check.faulty(x, "?", 1, 0);
        Check.taken(x, "fuel 99;", 1);
        Check.due("one that is -2", x.terms(1), -2);
        Check.due("none stays none", x.fault(0), 0);
        Check.due("NONE stays", x.fault(1), -1);
        Check.faulty(x, "fuel 1;fuel 1;", 3, 7);
        int[] others = {Integer.MIN_VALUE, -1, 2, 3, Integer.MAX_VALUE};
        for (int what : others) {
            Check.due("fault(" + what + ")", x.fault(what), -1);
        }
    }

    private static void lineEnds() {
        Check.says("TERMS, a TEXT: { LINE ';' }.");
        fault(";", 1, 0);
        fault("fuel 1;;", 1, 7);
        fault("fuel 1 night 60;", 1, 7);
        fault("fuel 1;night 60", 1, 15);
        fault("1;", 1, 0);
        fault("(fuel 1);", 1, 0);
        Check.says("LINE: night N | fuel N | allow E | price E | renter E | parish E | eggs E.");
        for (int i = 0; i < LINES.length; i++) {
            fine(LINES[i] + ";", 1);
            fault(LINES[i], 1, LINES[i].length());
            String word = LINES[i].split(" ")[0];
            fault(word, 1, word.length());
            fault(word + ";", 1, word.length());
        }
        String[] notN = {"(60)", "-60", "not 60", "like", "night"};
        for (String part : notN) {
            fault("night " + part + ";", 1, 6);
            fault("fuel " + part + ";", 1, 5);
        }
        fault("night 60+1;", 1, 8);
        fault("fuel 1 1;", 1, 7);
        // none of the expressions' words begins a line, no line's word but night is in an expression
        for (String name : NAMES) {
            if (!name.equals("night")) {
                fault(name + " 1;", 1, 0);
            }
        }
        String[] others = {"fuel", "allow", "price", "renter", "parish", "eggs"};
        for (String word : others) {
            fault("renter " + word + ";", 1, 7);
        }
        fine("renter night;", 1);
    }

    private static void ranks() {
        Check.says("E: A { or A }. A: B { and B }. B: not B | C. C: S [ ( < | <= | = | <> | >= | > ) S ].");
        for (String sign : COMPARISONS) {
            fine("price 1" + sign + "2;", 1);
            fine("price (1" + sign + "2)" + sign + "(3" + sign + "4);", 1);
            fine("price 1" + sign + "2 and not 3" + sign + "4 or 5" + sign + "6;", 1);
            fault("price 1" + sign + ";", 1, 7 + sign.length());
            fault("price " + sign + "1;", 1, 6);
            for (String other : COMPARISONS) {
                fault("price 1 " + sign + " 2 " + other + " 3;", 1, 11 + sign.length());
                fault("price not 1 " + sign + " -2*3 " + other + " 3;", 1, 18 + sign.length());
            }
        }
        String[] beforeNot = {"1<", "1=", "1+", "1-", "1*", "1/", "1%", "-"};
        for (String part : beforeNot) {
            fault("price " + part + " not 1;", 1, 7 + part.length());
            fine("price " + part + "(not 1);", 1);
        }
        String[] canBeforeNot = {"", "1 or", "1 and", "not", "(", "1<2 and", "1<(2 or"};
        for (String part : canBeforeNot) {
            fine("price " + part + " not 1" + (part.contains("(") ? ")" : "") + ";", 1);
        }
        Check.says("S: T { ( + | - ) T }. T: U { ( * | / | % ) U }. U: - U | P. P: N | NAME | '(' E ')'.");
        String[] signs = {"+", "*", "/", "%", "and", "or"};
        for (String sign : signs) {
            fault("price " + sign + " 1;", 1, 6);
            fault("price 1 " + sign + ";", 1, 8 + sign.length());
            fault("price 1 + " + sign + " 1;", 1, 10);
            fine("price 1 " + sign + " -1;", 1);
            fine("price 1 " + sign + " - -1;", 1);
        }
        fine("price -(-1);", 1);
        fault("price ();", 1, 7);
        fault("price (1;", 1, 8);
        fault("price 1);", 1, 7);
        fault("price (1));", 1, 9);
        fault("price 1(2);", 1, 7);
        fault("price (1)(2);", 1, 9);
        fault("price (1)2;", 1, 9);
        fault("price like(1);", 1, 10);
        fault("price 1 2;", 1, 8);
        fault("price like age;", 1, 11);
        fault("price 1 not 2;", 1, 8);
    }

    private static void words() {
        Check.says("NAME: people seats strict child like genre age minutes night worn heads.");
        for (String name : NAMES) {
            fine("renter " + name + ";", 1);
            fault("renter " + name + "s;", 1, 7);
            fault("renter " + name.substring(1) + ";", 1, 7);
            fault("renter " + name.substring(0, name.length() - 1) + ";", 1, 7);
            fault("renter " + Character.toUpperCase(name.charAt(0)) + name.substring(1) + ";", 1, 7);
        }
        Check.says("Words: small letters in a row");
        fault("price`1;", 1, 5);
        fault("price{1;", 1, 5);
        fault("price A;", 1, 6);
        fault("price Z;", 1, 6);
        fault("price [;", 1, 6);
        fault("price @;", 1, 6);
        fault("pricea 1;", 1, 0);
        fault("pricez 1;", 1, 0);
        fault("price notlike;", 1, 6);
        fault("price not_like;", 1, 9);
        fine("price not1;", 1);
        fine("price like*like;", 1);
        fault("price like1;", 1, 10);
        fault("price 1like;", 1, 7);
        fine("price 1and 1or 1;", 1);
        fault("price 1andlike;", 1, 7);
        fault("pri ce 1;", 1, 0);
        fault("price \u00e9;", 1, 6);
        Check.says("N: digits");
        fine("price 0;eggs 9;renter 00012345;parish 6789;", 4);
        fault("price 1:2;", 1, 7);
        fine("price 4/2;", 1);
        fault("price 4.2;", 1, 7);
        fault("price 1 0;", 1, 8);
        fault("price \u00b2;", 1, 6);
    }

    private static void blanks() {
        Check.says("blanks 10, 32");
        fine("\n fuel \n\n 1 \n ; \n", 1);
        for (int sign = 0; sign < 256; sign++) {
            String text = "fuel 1" + (char) sign + ";";
            boolean digit = sign >= '0' && sign <= '9';
            if (sign == 10 || sign == 32 || digit) {
                fine(text, 1);
            } else if (sign == ';') {
                fault(text, 1, 7);
            } else {
                fault(text, 1, 6);
            }
        }
    }

    private static void twoSigns() {
        Check.says("a = (or > behind <) right behind < or > belongs to it.");
        knots("price 1<=2;", 3);
        knots("price 1>=2;", 3);
        knots("price 1<>2;", 3);
        String[] apart = {"< =", "> =", "< >", "<\n=", ">\n=", "<\n>"};
        for (String signs : apart) {
            fault("price 1" + signs + "2;", 1, 9);
        }
        String[] others = {"==", "=<", "=>", "><", ">>", "<<"};
        for (String signs : others) {
            fault("price 1" + signs + "2;", 1, 8);
        }
        String[] three = {"<==", "<=>", "<>=", "<>>", ">==", ">=>", "<><"};
        for (String signs : three) {
            fault("price 1" + signs + "2;", 1, 9);
        }
        fine("price 1<-2;", 1);
        fine("price 1>-2;", 1);
    }

    private static void numberEnds() {
        Check.says("night 60 .. 900, fuel 0 .. 99; in E 0 .. 99999.");
        int[][] nights = {{0, 2}, {59, 2}, {60, 0}, {61, 0}, {899, 0}, {900, 0}, {901, 2}, {9000, 2}};
        for (int[] n : nights) {
            VanShows x = new VanShows();
            Check.due("night " + n[0], Check.terms(x, "night " + n[0] + ";"), n[1] == 0 ? 1 : -1);
            Check.due("fault", x.fault(0), n[1]);
            Check.due("place", x.fault(1), n[1] == 0 ? -1 : 6);
            Check.due("night", x.count(8), n[1] == 0 ? n[0] : 600);
        }
        int[][] fuels = {{0, 0}, {1, 0}, {98, 0}, {99, 0}, {100, 2}, {101, 2}, {990, 2}};
        for (int[] n : fuels) {
            VanShows x = new VanShows();
            Check.due("fuel " + n[0], Check.terms(x, "fuel " + n[0] + ";"), n[1] == 0 ? 1 : -1);
            Check.due("fault", x.fault(0), n[1]);
            Check.due("place", x.fault(1), n[1] == 0 ? -1 : 5);
            Check.due("fuel", x.count(9), n[1] == 0 ? n[0] : 5);
        }
        String[] lines = {"allow", "price", "renter", "parish", "eggs"};
        for (String line : lines) {
            fine(line + " 0;", 1);
            fine(line + " 99998;", 1);
            fine(line + " 99999;", 1);
            fault(line + " 100000;", 2, line.length() + 1);
            fault(line + " 100001;", 2, line.length() + 1);
        }
        Check.says("2 too much (at it): a number beyond what is said");
        // what would come within by a wrap-around of ints and of longs, and by digits that are left out
        String[] wraps = {"4294967296", "4294967356", "18446744073709551616", "18446744073709551676",
            "340282366920938463463374607431768211516", "2147483648", "9223372036854775808", Check.times("9", 400)};
        for (String n : wraps) {
            fault("night " + n + ";", 2, 6);
            fault("fuel " + n + ";", 2, 5);
            fault("price " + n + ";", 2, 6);
        }
        fine("night " + Check.times("0", 400) + "900;", 1);
        fine("fuel " + Check.times("0", 400) + "99;", 1);
        fine("price " + Check.times("0", 400) + "99999;", 1);
        fault("price " + Check.times("0", 400) + "100000;", 2, 6);
    }

    private static void firstFault() {
        Check.says("FAULTS, the first along the text (of one place the least), with its place");
        fault("fuel 100;night 59;", 2, 5);
        fault("price heads;?", 4, 6);
        fault("fuel 1;fuel 100;", 3, 7);
        fault("fuel 1;night ?;fuel 1;", 1, 13);
        fault("price 100000+heads;", 2, 6);
        fault("price heads+100000;", 4, 6);
        // 1 ahead of 2 at one place
        fault("price 1 100000;", 1, 8);
        fault("fuel 1 100;", 1, 7);
        fault("price ((((((((1(1;", 1, 15);
        fault(KNOTS_63 + "+ 1;", 2, 71);
        fault(KNOTS_63 + "+;", 1, 70);
        fault(KNOTS_63 + "; eggs 1 1;", 1, 78);
        fault(KNOTS_63 + "; eggs 1 not 1;", 1, 78);
        fault(KNOTS_63 + "; eggs 1 like;", 1, 78);
        fault("price 1=1" + Check.times("+1", 30) + ";eggs 1 = 1;", 2, 77);
        fault("price 1=1" + Check.times("+1", 30) + "+1=1;", 2, 70);
        fault("price -1=1" + Check.times("+1", 30) + "=1;", 1, 70);
        fault("price -1=1" + Check.times("+1", 30) + "+1;", 2, 70);
        // 1 ahead of 3: the word of a line told already where none may stand
        fault("fuel 1;night 60 fuel 1;", 1, 16);
        fault("fuel 1 fuel 1;", 1, 7);
        fault("price 1;allow price;", 1, 14);
        // 1 ahead of 4
        fault("price 1 heads;", 1, 8);
        fault("allow (1)heads;", 1, 9);
        // 2 ahead of 4
        fault(KNOTS_63 + ";renter 1;allow heads;", 2, 85);
        fault("price 1" + Check.times("+1", 30) + "*1;renter 1;allow heads;", 2, 85);
        fault("price 1" + Check.times("+1", 30) + "*-1;allow heads;", 2, 77);
    }

    private static void noToken() {
        Check.says("1 a TOKEN that is none (another word, too) or can't stand there");
        for (int sign = 0; sign < 256; sign++) {
            boolean letter = sign >= 'a' && sign <= 'z';
            boolean digit = sign >= '0' && sign <= '9';
            boolean known = letter || digit || "();<=>+-*/% \n".indexOf(sign) >= 0;
            if (!known) {
                fault("price 1" + (char) sign + ";", 1, 7);
                fault("price " + (char) sign + ";", 1, 6);
                fault("" + (char) sign, 1, 0);
            }
        }
        fault("price x;", 1, 6);
        fault("price 1 x 1;", 1, 8);
        fault("price 1;x 1;", 1, 8);
        fault("or;", 1, 0);
        fault("not 1;", 1, 0);
        Check.says("(the length, if more must come)");
        String[] starts = {"night", "night 60", "fuel", "fuel 1", "price", "price 1", "price like", "price (", "price (1",
            "price -", "price not", "price 1+", "price 1*", "price 1<", "price 1<=", "price 1 and", "price 1 or",
            "price 1;allow", "price 1;allow 1"};
        for (String start : starts) {
            fault(start, 1, start.length());
            fault(start + " ", 1, start.length() + 1);
            fault(start + "\n \n", 1, start.length() + 3);
        }
        fine("price 1;allow 1;", 2);
        fine("price 1;allow 1; \n ", 2);
    }

    private static void openBrackets() {
        Check.says("a ninth '(' open");
        fine("price (((((((1)))))));", 1);
        fine("price ((((((((1))))))));", 1);
        fault("price (((((((((1)))))))));", 2, 14);
        fault("price ((((((((((1))))))))));", 2, 14);
        fine("price ((((((((1))))))))+((((((((1))))))));", 1);
        fault("price ((((((((1))))))))+(((((((((1)))))))));", 2, 32);
        fine("price ((((((((1)+(1))))))));", 1);
        fault("price ((((((((1+(1)))))))));", 2, 16);
        fine("price ((((((((1))))))));allow ((((((((1))))))));", 2);
        fault("price ((((((((-(", 2, 15);
        fault("price ((((((((", 1, 14);
    }

    private static void mostKnots() {
        Check.says("a 65th KNOT of the whole text (N in an E, NAMES, signs, not, and, or: one each)");
        knots(KNOTS_63 + ";", 63);
        knots("eggs 1;" + KNOTS_63 + ";", 64);
        // of 64 knots each kind comes as the 65th
        String[] parts = {"1", "like", "-", "not", "("};
        String full = KNOTS_63 + ";eggs 1;renter ";
        for (String part : parts) {
            fault(full + part + ";", part.equals("(") ? 1 : 2, full.length() + (part.equals("(") ? 1 : 0));
        }
        String[] joins = {"+", "-", "*", "/", "%", "<", "<=", "=", "<>", ">=", ">", " and ", " or "};
        String whole = "price -1" + Check.times("+1", 31);
        knots(whole + ";", 64);
        for (String join : joins) {
            fault(whole + join + "1;", 2, whole.length() + (join.startsWith(" ") ? 1 : 0));
            fault(KNOTS_63 + join + "1;", 2, KNOTS_63.length() + join.length());
        }
        // each kind is one
        knots("price 1;", 1);
        knots("price like;", 1);
        knots("price -1;", 2);
        knots("price not 1;", 2);
        knots("price not not - - 1;", 5);
        for (String join : joins) {
            knots("price 1" + join + "1;", 3);
        }
        knots("price (((1)));", 1);
        knots("price (1+(1));", 3);
        knots("night 60;fuel 1;", 0);
        knots("night 60;fuel 1;eggs 1;", 1);
        knots("", 0);
        fine("allow " + Check.times("not ", 63) + "1;night 60;fuel 1;", 3);
        fault("allow " + Check.times("not ", 64) + "1;", 2, 262);
        fine("allow " + Check.times("-", 63) + "1;", 1);
        fault("allow " + Check.times("-", 64) + "1;", 2, 70);
    }

    /** What one text left behind, with a fault or without, is nothing to the next. */
    private static void oneByOne() {
        Check.says("The TAPE's first n bytes (it is empty then) are the TERMS: how many LINES; NONE with a FAULT");
        VanShows x = new VanShows();
        for (int i = 0; i < 10; i++) {
            Check.taken(x, "eggs 1;" + KNOTS_63 + ";", 2);
            Check.due("knots", x.count(10), 64);
            Check.faulty(x, "price ((((((((1+(", 2, 16);
            Check.taken(x, "price ((((((((1))))))));", 1);
            Check.due("knots", x.count(10), 1);
            Check.faulty(x, "price 1);", 1, 7);
            Check.faulty(x, "price 1+not 1;", 1, 8);
            Check.taken(x, "price not 1;eggs 2;", 2);
            Check.due("knots", x.count(10), 3);
            Check.faulty(x, "night 60;fuel 1;eggs 1;eggs 1;", 3, 23);
            Check.taken(x, "", 0);
            Check.due("knots", x.count(10), 0);
        }
        // with a fault the terms that were told ahead stay
        VanShows y = new VanShows();
        Check.taken(y, "night 70;fuel 7;price 1+2;", 3);
        String[] faulty = {"night 80;fuel 8;price 1?", "night 80;night 90;", "fuel 100;", "price heads;", "?"};
        for (String text : faulty) {
            Check.due("terms of '" + text + "'", Check.terms(y, text), -1);
            Check.due("night", y.count(8), 70);
            Check.due("fuel", y.count(9), 7);
            Check.due("knots", y.count(10), 3);
        }
    }

    private static void toldAlready() {
        Check.says("3 a LINE told already (at its word)");
        for (int i = 0; i < LINES.length; i++) {
            int second = LINES[i].length() + 1;
            fault(LINES[i] + ";" + LINES[i] + ";", 3, second);
            fault(LINES[i] + ";\n " + LINES[i] + ";", 3, second + 2);
            fault(LINES[i] + ";" + LINES[i].split(" ")[0], 3, second);
            for (int k = 0; k < LINES.length; k++) {
                if (k != i) {
                    fine(LINES[i] + ";" + LINES[k] + ";", 2);
                }
            }
        }
        String all = String.join(";", LINES) + ";";
        fault(all + "night 60;", 3, all.length());
        VanShows x = new VanShows();
        Check.taken(x, all, 7);
        Check.taken(x, all, 7);
    }

    private static void headsUnknown() {
        Check.says("4 heads in an E of allow or price (at it)");
        String[] without = {"allow", "price"};
        for (String line : without) {
            fault(line + " heads;", 4, 6);
            fault(line + " 1+(2*-heads);", 4, 12);
            fault(line + " not heads;", 4, 10);
            fault("renter heads;" + line + " heads;", 4, 19);
        }
        String[] with = {"renter", "parish", "eggs"};
        for (String line : with) {
            fine(line + " 1+(2*-heads);", 1);
            fine("price 1;" + line + " heads;allow 1;", 3);
        }
        fault("night heads;", 1, 6);
        fault("fuel heads;", 1, 5);
    }

    private static void withoutLines() {
        Check.says("Without a LINE: night 600, fuel 5; allow 1, price 10, renter 40, parish 10, eggs 0.");
        VanShows x = new VanShows();
        x.village(999, 500, 0, 0);
        x.village(999, 500, 0, 0);
        x.like(1, 0, 100);
        x.road(0, 1, 360, 0);
        x.van(0);
        x.print(0, 0, 240, 0, 0, 4, 0);
        x.entry(0, 0, 1, 0);
        String[] ahead = {null, "", "night 60;fuel 99;allow 0;price 0;renter 0;parish 0;eggs 100;"};
        for (String text : ahead) {
            if (text != null) {
                Check.terms(x, text);
                x.terms(0);
            }
            int[] due = {0, 500, 5000, 2000, 300, 0, 360};
            for (int what = 0; what < 7; what++) {
                Check.due("shown(0, 0, " + what + ")", x.shown(0, 0, what), due[what]);
            }
            Check.due("fuel of 360 minutes", x.run(0, 3), 180);
            Check.due("night", x.count(8), 600);
            Check.due("fuel", x.count(9), 5);
        }
        VanShows y = new VanShows();
        y.village(100, 50, 0, 0);
        y.village(100, 50, 0, 0);
        y.road(0, 1, 361, 0);
        y.van(0);
        y.print(0, 0, 240, 0, 0, 4, 0);
        y.entry(0, 0, 1, 0);
        Check.due("601 minutes", y.shown(0, 0, 0), 5);
    }

    public static void main(String[] args) {
        fullTape();
        someBytes();
        tooMany();
        latestFault();
        lineEnds();
        ranks();
        words();
        blanks();
        twoSigns();
        numberEnds();
        firstFault();
        noToken();
        openBrackets();
        mostKnots();
        oneByOne();
        toldAlready();
        headsUnknown();
        withoutLines();
        Check.end();
    }
}
