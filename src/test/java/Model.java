import java.math.BigInteger;
import java.util.ArrayList;
import java.util.HashMap;
import java.util.HashSet;
import java.util.List;
import java.util.Map;
import java.util.NoSuchElementException;
import java.util.Set;

/** The document written a second time, in the slowest and plainest way, for the random test. */
final class Model {
    record Village(int people, int seats, int strict, int child, int[] like) { }
    record Road(int a, int b, int minutes, int pass) { }
    record Print(int genre, int age, int minutes, int van, int home, int due, int fine) { }
    record Entry(int night, int van, int village, int print) { }
    record Hand(int night, int print, int van) { }
    record Note(boolean strike, int village, int night, int number) { }
    record Token(String text, int place) { }

    static final class Fault extends RuntimeException {
        private static final long serialVersionUID = 1;
        final int kind;
        final int place;
        Fault(int kind, int place) {
            this.kind = kind;
            this.place = place;
        }
    }

    static final class Failure extends RuntimeException {
        private static final long serialVersionUID = 1;
    }

    /** A knot of an expression: sign, and sides. */
    static final class Tree {
        final String sign;
        final List<Tree> sides = new ArrayList<>();
        Tree(String sign, Tree... parts) {
            this.sign = sign;
            for (Tree part : parts) {
                sides.add(part);
            }
        }
    }

    static final class Outcome {
        final List<int[]> told = new ArrayList<>();
        int heads;
        int profit;
        int shows;
        int fuel;
        int eggs;
        int[][] where;
        int[] holder;
        int[] back;
        int[] late;
        int[] worn;
    }

    final List<Byte> tape = new ArrayList<>();
    final List<Village> villages = new ArrayList<>();
    final List<Road> roads = new ArrayList<>();
    final List<Integer> passChances = new ArrayList<>();
    final List<Integer> vans = new ArrayList<>();
    final List<Integer> brokenNights = new ArrayList<>();
    final List<Print> prints = new ArrayList<>();
    List<Entry> entries = new ArrayList<>();
    final List<Hand> hands = new ArrayList<>();
    final List<Note> notes = new ArrayList<>();
    final int[] eggPrice = {1, 1, 1, 1};
    int nightMinutes = 600;
    int fuelPrice = 5;
    int knots = 0;
    Map<String, Tree> law = new HashMap<>();
    int faultKind = 0;
    int faultPlace = -1;
    int[] rounded = null;

    // ---- the text

    int feed(int... numbers) {
        if (tape.size() + 20 > 500) {
            return -1;
        }
        for (int number : numbers) {
            for (int k = 3; k >= 0; k--) {
                tape.add((byte) (number >>> (8 * k)));
            }
        }
        return tape.size();
    }

    int terms(int n) {
        if (n < 0 || n > tape.size()) {
            return -2;
        }
        StringBuilder text = new StringBuilder();
        for (int i = 0; i < n; i++) {
            text.append((char) (tape.get(i) & 255));
        }
        tape.clear();
        faultKind = 0;
        faultPlace = -1;
        try {
            Parser parser = new Parser(text.toString());
            parser.all();
            law = parser.trees;
            nightMinutes = parser.night;
            fuelPrice = parser.fuel;
            knots = parser.knots;
            return parser.told.size();
        } catch (Fault fault) {
            faultKind = fault.kind;
            faultPlace = fault.place;
            return -1;
        }
    }

    static final class Parser {
        static final Set<String> NAMES = Set.of("people", "seats", "strict", "child", "like", "genre", "age",
            "minutes", "night", "worn", "heads");
        final List<Token> tokens = new ArrayList<>();
        final Map<String, Tree> trees = new HashMap<>();
        final Set<String> told = new HashSet<>();
        int at = 0;
        int night = 600;
        int fuel = 5;
        int knots = 0;
        int open = 0;
        String line = "";

        Parser(String text) {
            java.util.regex.Matcher m = java.util.regex.Pattern
                .compile("[a-z]+|[0-9]+|<=|>=|<>|[^ \n]").matcher(text);
            while (m.find()) {
                tokens.add(new Token(m.group(), m.start()));
            }
            tokens.add(new Token("", text.length()));
        }

        String peek() {
            return tokens.get(at).text();
        }

        int place() {
            return tokens.get(at).place();
        }

        boolean number() {
            return peek().matches("[0-9]+");
        }

        void want(String sign) {
            if (!peek().equals(sign)) {
                throw new Fault(1, place());
            }
            at++;
        }

        void knot() {
            knots++;
            if (knots > 64) {
                throw new Fault(2, place());
            }
        }

        void all() {
            while (!peek().isEmpty()) {
                line = peek();
                if (!Set.of("night", "fuel", "allow", "price", "renter", "parish", "eggs").contains(line)) {
                    throw new Fault(1, place());
                }
                if (!told.add(line)) {
                    throw new Fault(3, place());
                }
                at++;
                if (line.equals("night")) {
                    night = setting(60, 900);
                } else if (line.equals("fuel")) {
                    fuel = setting(0, 99);
                } else {
                    trees.put(line, or());
                }
                want(";");
            }
        }

        int setting(int least, int most) {
            if (!number()) {
                throw new Fault(1, place());
            }
            BigInteger n = new BigInteger(peek());
            if (n.compareTo(BigInteger.valueOf(least)) < 0 || n.compareTo(BigInteger.valueOf(most)) > 0) {
                throw new Fault(2, place());
            }
            at++;
            return n.intValue();
        }

        Tree or() {
            Tree tree = and();
            while (peek().equals("or")) {
                knot();
                at++;
                tree = new Tree("or", tree, and());
            }
            return tree;
        }

        Tree and() {
            Tree tree = not();
            while (peek().equals("and")) {
                knot();
                at++;
                tree = new Tree("and", tree, not());
            }
            return tree;
        }

        Tree not() {
            if (peek().equals("not")) {
                knot();
                at++;
                return new Tree("not", not());
            }
            Tree tree = sum();
            if (Set.of("<", "<=", "=", "<>", ">=", ">").contains(peek())) {
                String sign = peek();
                knot();
                at++;
                tree = new Tree(sign, tree, sum());
            }
            return tree;
        }

        Tree sum() {
            Tree tree = term();
            while (peek().equals("+") || peek().equals("-")) {
                String sign = peek();
                knot();
                at++;
                tree = new Tree(sign, tree, term());
            }
            return tree;
        }

        Tree term() {
            Tree tree = unary();
            while (peek().equals("*") || peek().equals("/") || peek().equals("%")) {
                String sign = peek();
                knot();
                at++;
                tree = new Tree(sign, tree, unary());
            }
            return tree;
        }

        Tree unary() {
            if (peek().equals("-")) {
                knot();
                at++;
                return new Tree("negate", unary());
            }
            if (peek().equals("(")) {
                if (open == 8) {
                    throw new Fault(2, place());
                }
                open++;
                at++;
                Tree inside = or();
                want(")");
                open--;
                return inside;
            }
            if (!number() && !NAMES.contains(peek())) {
                throw new Fault(1, place());
            }
            if (number() && new BigInteger(peek()).compareTo(BigInteger.valueOf(99999)) > 0) {
                throw new Fault(2, place());
            }
            knot();
            if (peek().equals("heads") && (line.equals("allow") || line.equals("price"))) {
                throw new Fault(4, place());
            }
            Tree leaf = new Tree(peek());
            at++;
            return leaf;
        }
    }

    static final BigInteger MOST = BigInteger.TEN.pow(12);

    static BigInteger bit(boolean holds) {
        return holds ? BigInteger.ONE : BigInteger.ZERO;
    }

    static BigInteger value(Tree tree, Map<String, Integer> facts) {
        List<BigInteger> sides = new ArrayList<>();
        for (Tree side : tree.sides) {
            sides.add(value(side, facts));
        }
        BigInteger a = sides.size() > 0 ? sides.get(0) : null;
        BigInteger b = sides.size() > 1 ? sides.get(1) : null;
        BigInteger result;
        switch (tree.sign) {
            case "or" -> result = bit(a.signum() != 0 || b.signum() != 0);
            case "and" -> result = bit(a.signum() != 0 && b.signum() != 0);
            case "not" -> result = bit(a.signum() == 0);
            case "<" -> result = bit(a.compareTo(b) < 0);
            case "<=" -> result = bit(a.compareTo(b) <= 0);
            case "=" -> result = bit(a.compareTo(b) == 0);
            case "<>" -> result = bit(a.compareTo(b) != 0);
            case ">=" -> result = bit(a.compareTo(b) >= 0);
            case ">" -> result = bit(a.compareTo(b) > 0);
            case "+" -> result = a.add(b);
            case "-" -> result = a.subtract(b);
            case "*" -> result = a.multiply(b);
            case "negate" -> result = a.negate();
            case "/", "%" -> {
                if (b.signum() == 0) {
                    throw new Failure();
                }
                result = tree.sign.equals("/") ? a.divide(b) : a.remainder(b);
            }
            default -> result = facts.containsKey(tree.sign)
                ? BigInteger.valueOf(facts.get(tree.sign)) : new BigInteger(tree.sign);
        }
        if (result.abs().compareTo(MOST) > 0) {
            throw new Failure();
        }
        return result;
    }

    boolean allowed(Map<String, Integer> facts) {
        if (!law.containsKey("allow")) {
            return true;
        }
        try {
            return value(law.get("allow"), facts).signum() != 0;
        } catch (Failure failure) {
            return false;
        }
    }

    int rate(String line, int without, int most, Map<String, Integer> facts) {
        if (!law.containsKey(line)) {
            return without;
        }
        try {
            return value(law.get(line), facts).max(BigInteger.ZERO).min(BigInteger.valueOf(most)).intValue();
        } catch (Failure failure) {
            return 0;
        }
    }

    // ---- land, vans, prints

    static boolean in(int n, int least, int most) {
        return least <= n && n <= most;
    }

    boolean isVillage(int v) {
        return in(v, 0, villages.size() - 1);
    }

    boolean isVan(int v) {
        return in(v, 0, vans.size() - 1);
    }

    boolean isPrint(int p) {
        return in(p, 0, prints.size() - 1);
    }

    int village(int people, int seats, int strict, int child) {
        if (!in(people, 1, 999) || !in(seats, 1, 500) || !in(strict, 0, 9) || !in(child, 0, 100)) {
            return -1;
        }
        return villages.size() == 8 ? -1
            : add(villages, new Village(people, seats, strict, child, new int[] {50, 50, 50, 50}));
    }

    static <T> int add(List<T> list, T thing) {
        list.add(thing);
        return list.size() - 1;
    }

    boolean like(int village, int genre, int n) {
        if (!isVillage(village) || !in(genre, 0, 3) || !in(n, 0, 100)) {
            return false;
        }
        villages.get(village).like()[genre] = n;
        return true;
    }

    int road(int a, int b, int minutes, int shut) {
        if (!isVillage(a) || !isVillage(b) || a == b || !in(minutes, 1, 600) || !in(shut, 0, 15)) {
            return -1;
        }
        if (roads.size() == 14 || shut > 0 && passChances.size() == 2) {
            return -1;
        }
        int pass = shut == 0 ? -1 : add(passChances, shut);
        return add(roads, new Road(a, b, minutes, pass));
    }

    int van(int village) {
        if (!isVillage(village) || vans.size() == 3) {
            return -1;
        }
        brokenNights.add(0);
        return add(vans, village);
    }

    boolean broken(int van, int nights) {
        if (!isVan(van) || !in(nights, 0, 15)) {
            return false;
        }
        brokenNights.set(van, nights);
        return true;
    }

    int print(int genre, int age, int minutes, int van, int home, int due, int fine) {
        if (!in(genre, 0, 3) || !in(age, 0, 18) || !in(minutes, 10, 240) || !isVan(van) || !isVillage(home)) {
            return -1;
        }
        if (!in(due, 0, 4) || !in(fine, 0, 999) || prints.size() == 4) {
            return -1;
        }
        return add(prints, new Print(genre, age, minutes, van, home, due, fine));
    }

    boolean egg(int night, int price) {
        if (!in(night, 0, 3) || !in(price, 1, 99)) {
            return false;
        }
        eggPrice[night] = price;
        return true;
    }

    /** By rounds over all roads until nothing changes. */
    int way(int a, int b, int shut) {
        if (!isVillage(a) || !isVillage(b) || !in(shut, 0, 3)) {
            return -1;
        }
        Map<Integer, Integer> best = new HashMap<>();
        best.put(a, 0);
        boolean changed = true;
        while (changed) {
            changed = false;
            for (Road road : roads) {
                if (road.pass() >= 0 && (shut >> road.pass()) % 2 == 1) {
                    continue;
                }
                int[][] both = {{road.a(), road.b()}, {road.b(), road.a()}};
                for (int[] one : both) {
                    if (best.containsKey(one[0])) {
                        int by = best.get(one[0]) + road.minutes();
                        if (!best.containsKey(one[1]) || best.get(one[1]) > by) {
                            best.put(one[1], by);
                            changed = true;
                        }
                    }
                }
            }
        }
        return best.getOrDefault(b, -1);
    }

    // ---- the row

    int entry(int night, int van, int village, int print) {
        if (!in(night, 0, 3) || !isVan(van) || !isVillage(village) || !isPrint(print) || entries.size() == 24) {
            return -1;
        }
        return add(entries, new Entry(night, van, village, print));
    }

    int hand(int night, int print, int van) {
        if (!in(night, 0, 3) || !isPrint(print) || !isVan(van) || hands.size() == 12) {
            return -1;
        }
        return add(hands, new Hand(night, print, van));
    }

    int clear(int van) {
        if (van != -1 && !isVan(van)) {
            return -2;
        }
        int before = entries.size();
        if (van == -1) {
            entries.clear();
            hands.clear();
        } else {
            entries.removeIf(e -> e.van() == van);
        }
        return before - entries.size();
    }

    Outcome outcome(List<Entry> row, int shut) {
        Outcome out = new Outcome();
        int[] at = new int[vans.size()];
        int[] road = new int[vans.size()];
        for (int v = 0; v < at.length; v++) {
            at[v] = vans.get(v);
        }
        out.holder = new int[prints.size()];
        out.back = new int[prints.size()];
        out.late = new int[prints.size()];
        out.worn = new int[prints.size()];
        out.where = new int[vans.size()][4];
        for (int p = 0; p < prints.size(); p++) {
            out.holder[p] = prints.get(p).van();
            out.back[p] = -1;
        }
        for (int i = 0; i < row.size(); i++) {
            out.told.add(new int[7]);
        }
        Map<String, Integer> seen = new HashMap<>();
        for (int night = 0; night < 4; night++) {
            for (Hand hand : hands) {
                if (hand.night() == night) {
                    int from = out.holder[hand.print()];
                    boolean fit = (brokenNights.get(from) >> night) % 2 == 0
                        && (brokenNights.get(hand.van()) >> night) % 2 == 0;
                    if (fit && at[from] == at[hand.van()]) {
                        out.holder[hand.print()] = hand.van();
                    }
                }
            }
            Set<Integer> had = new HashSet<>();
            for (int v = 0; v < at.length; v++) {
                int minutes = 0;
                int shows = 0;
                for (int i = 0; i < row.size(); i++) {
                    Entry entry = row.get(i);
                    if (entry.night() != night || entry.van() != v) {
                        continue;
                    }
                    Print print = prints.get(entry.print());
                    Village village = villages.get(entry.village());
                    int[] told = out.told.get(i);
                    int way = way(at[v], entry.village(), (shut >> (2 * night)) % 4);
                    Map<String, Integer> facts = new HashMap<>();
                    facts.put("people", village.people());
                    facts.put("seats", village.seats());
                    facts.put("strict", village.strict());
                    facts.put("child", village.child());
                    facts.put("like", village.like()[print.genre()]);
                    facts.put("genre", print.genre());
                    facts.put("age", print.age());
                    facts.put("minutes", print.minutes());
                    facts.put("night", night);
                    facts.put("worn", out.worn[entry.print()]);
                    String pair = entry.print() + " at " + entry.village();
                    int heads = village.people() * village.like()[print.genre()] / 100 - seen.getOrDefault(pair, 0);
                    heads = heads < 0 ? 0 : heads;
                    heads = heads > village.seats() ? village.seats() : heads;
                    facts.put("heads", heads);
                    if ((brokenNights.get(v) >> night) % 2 == 1) {
                        told[0] = 1;
                    } else if (shows == 2) {
                        told[0] = 2;
                    } else if (out.holder[entry.print()] != v) {
                        told[0] = 3;
                    } else if (way == -1) {
                        told[0] = 4;
                    } else if (minutes + way + print.minutes() > nightMinutes) {
                        told[0] = 5;
                    } else if (had.contains(entry.village())) {
                        told[0] = 6;
                    } else if (!allowed(facts)) {
                        told[0] = 7;
                    } else {
                        int price = rate("price", 10, 999, facts);
                        int taken = heads * price;
                        int renter = taken * rate("renter", 40, 100, facts) / 100;
                        int parish = (taken - renter) * rate("parish", 10, 100, facts) / 100;
                        int payers = heads * rate("eggs", 0, 100, facts) / 100;
                        int each = price / eggPrice[night] + (price % eggPrice[night] == 0 ? 0 : 1);
                        int[] all = {0, heads, taken, renter, parish, payers * each, way};
                        System.arraycopy(all, 0, told, 0, 7);
                        minutes += way + print.minutes();
                        road[v] += way;
                        shows++;
                        had.add(entry.village());
                        at[v] = entry.village();
                        out.worn[entry.print()]++;
                        seen.merge(pair, heads, Integer::sum);
                        out.heads += heads;
                        out.shows++;
                        out.eggs += payers * each;
                        out.profit += taken - renter - parish;
                    }
                }
            }
            for (int v = 0; v < at.length; v++) {
                out.where[v][night] = at[v];
            }
            for (int p = 0; p < prints.size(); p++) {
                if (out.back[p] == -1 && at[out.holder[p]] == prints.get(p).home()) {
                    out.back[p] = night;
                }
            }
        }
        for (int minutes : road) {
            out.fuel += minutes * fuelPrice / 10;
        }
        out.profit -= out.fuel;
        for (int p = 0; p < prints.size(); p++) {
            int due = prints.get(p).due();
            if (due == 4) {
                out.late[p] = 0;
            } else if (out.back[p] == -1) {
                out.late[p] = 4 - due;
            } else {
                out.late[p] = out.back[p] > due ? out.back[p] - due : 0;
            }
            out.profit -= out.late[p] * prints.get(p).fine();
        }
        return out;
    }

    int shown(int entry, int shut, int what) {
        if (!in(entry, 0, entries.size() - 1) || !in(shut, 0, 255) || !in(what, 0, 6)) {
            return -1;
        }
        return outcome(entries, shut).told.get(entry)[what];
    }

    int run(int shut, int what) {
        if (!in(shut, 0, 255) || !in(what, 0, 4)) {
            return Integer.MIN_VALUE;
        }
        Outcome out = outcome(entries, shut);
        return new int[] {out.heads, out.profit, out.shows, out.fuel, out.eggs}[what];
    }

    int where(int van, int night, int shut) {
        if (!isVan(van) || !in(night, 0, 3) || !in(shut, 0, 255)) {
            return -1;
        }
        return outcome(entries, shut).where[van][night];
    }

    int printed(int print, int shut, int what) {
        if (!isPrint(print) || !in(shut, 0, 255) || !in(what, 0, 3)) {
            return -1;
        }
        Outcome out = outcome(entries, shut);
        return new int[] {out.holder[print], out.back[print], out.late[print], out.worn[print]}[what];
    }

    long expected(int what) {
        if (!in(what, 0, 3)) {
            return Long.MIN_VALUE;
        }
        if (what == 3) {
            return BigInteger.valueOf(16).pow(4 * passChances.size()).longValueExact();
        }
        return expectedFrom(0, 0, what).longValueExact();
    }

    /** Pass by pass and night by night: shut, or not. */
    private BigInteger expectedFrom(int step, int shut, int what) {
        if (step == 4 * passChances.size()) {
            return BigInteger.valueOf(run(shut, what));
        }
        int night = step / passChances.size();
        int pass = step % passChances.size();
        int chance = passChances.get(pass);
        BigInteger if1 = expectedFrom(step + 1, shut | 1 << (2 * night + pass), what);
        BigInteger if0 = expectedFrom(step + 1, shut, what);
        return if1.multiply(BigInteger.valueOf(chance)).add(if0.multiply(BigInteger.valueOf(16 - chance)));
    }

    int round(int van, int n) {
        if (!isVan(van) || !in(n, 1, 3)) {
            return -1;
        }
        double rows = Math.pow(villages.size() * prints.size() + 1, n);
        if (rows > 1200) {
            return -1;
        }
        List<Entry> others = new ArrayList<>(entries);
        others.removeIf(e -> e.van() == van);
        int[] best = new int[6];
        best[5] = -1;
        choose(van, n, new ArrayList<>(), others, best);
        rounded = best;
        return best[5];
    }

    private void choose(int van, int n, List<Integer> codes, List<Entry> others, int[] best) {
        if (codes.size() == n) {
            List<Entry> row = new ArrayList<>(others);
            for (int night = 0; night < n; night++) {
                if (codes.get(night) != -1) {
                    row.add(new Entry(night, van, codes.get(night) / 4, codes.get(night) % 4));
                }
            }
            Outcome out = outcome(row, 0);
            if (out.heads > best[5] || out.heads == best[5] && out.profit > best[0]) {
                best[5] = out.heads;
                best[0] = out.profit;
                for (int night = 0; night < 3; night++) {
                    best[night + 1] = night < n ? codes.get(night) : -1;
                }
            }
            best[4]++;
            return;
        }
        for (int code = -1; code < 4 * villages.size(); code++) {
            if (code == -1 || code % 4 < prints.size()) {
                codes.add(code);
                choose(van, n, codes, others, best);
                codes.remove(codes.size() - 1);
            }
        }
    }

    int rounded(int what) {
        return rounded == null || !in(what, 0, 4) ? Integer.MIN_VALUE : rounded[what];
    }

    // ---- reports

    int report(int village, int night, int heads) {
        if (!isVillage(village) || !in(night, 0, 3) || !in(heads, 0, 500) || notes.size() == 40) {
            return -1;
        }
        return add(notes, new Note(false, village, night, heads));
    }

    int strike(int note) {
        if (!in(note, 0, notes.size() - 1) || notes.size() == 40) {
            return -1;
        }
        return add(notes, new Note(true, -1, -1, note));
    }

    /** By its own words: a note counts if no strike behind it that counts strikes it. */
    private boolean counts(int note, int n) {
        for (int i = note + 1; i < n; i++) {
            if (notes.get(i).strike() && notes.get(i).number() == note && counts(i, n)) {
                return false;
            }
        }
        return true;
    }

    int ends(int n, int what) {
        if (!in(n, 0, notes.size()) || !in(what, 0, 2)) {
            return -1;
        }
        Outcome out = outcome(entries, 0);
        int[] sums = new int[3];
        for (int i = 0; i < entries.size(); i++) {
            if (out.told.get(i)[0] != 0) {
                continue;
            }
            Integer latest = null;
            for (int k = 0; k < n; k++) {
                Note note = notes.get(k);
                boolean mine = !note.strike() && note.village() == entries.get(i).village()
                    && note.night() == entries.get(i).night();
                if (mine && counts(k, n)) {
                    latest = note.number();
                }
            }
            sums[0] += latest == null ? 0 : latest;
            sums[1] += latest == null ? villages.get(entries.get(i).village()).seats() : latest;
            sums[2] += latest == null ? 1 : 0;
        }
        return sums[what];
    }

    int look(int village, int what) {
        if (!isVillage(village)) {
            throw new IndexOutOfBoundsException();
        }
        Village v = villages.get(village);
        return switch (what) {
            case 0 -> v.people();
            case 1 -> v.seats();
            case 2 -> v.strict();
            case 3 -> v.child();
            case 4, 5, 6, 7 -> v.like()[what - 4];
            default -> throw new NoSuchElementException();
        };
    }

    int count(int what) {
        int[] all = {villages.size(), roads.size(), passChances.size(), vans.size(), prints.size(), entries.size(),
            hands.size(), notes.size(), nightMinutes, fuelPrice, knots};
        return in(what, 0, 10) ? all[what] : -1;
    }
}
