import java.util.Arrays;
import java.util.NoSuchElementException;

/** The office of the picture vans: what each call answers stands in the document, promise by promise. */
public final class VanShows {
    public static final int NONE = -1;

    private static final int NO_SUCH = -2;
    private static final int NIGHTS = 4;
    private static final int GENRES = 4;
    private static final int MOST_VILLAGES = 8;
    private static final int MOST_ROADS = 14;
    private static final int MOST_PASSES = 2;
    private static final int MOST_VANS = 3;
    private static final int MOST_PRINTS = 4;
    private static final int MOST_ENTRIES = 24;
    private static final int MOST_ROUND_NIGHTS = 3;
    private static final int MOST_HANDS = 12;
    private static final int MOST_NOTES = 40;
    private static final int MOST_BYTES = 500;
    private static final int MOST_SHUT = 255;

    private static final int PEOPLE = 0;
    private static final int SEATS = 1;
    private static final int STRICT = 2;
    private static final int CHILD = 3;
    private static final int FIRST_LIKE = 4;
    private static final int VILLAGE_FACTS = FIRST_LIKE + GENRES;

    private static final int GENRE = 0;
    private static final int AGE = 1;
    private static final int MINUTES = 2;
    private static final int FIRST_VAN = 3;
    private static final int HOME = 4;
    private static final int DUE = 5;
    private static final int FINE = 6;
    private static final int PRINT_FACTS = 7;

    private static final int CAUSE = 0;
    private static final int HEADS = 1;
    private static final int TAKEN = 2;
    private static final int RENTERS_PART = 3;
    private static final int PARISH_PART = 4;
    private static final int EGGS_PAID = 5;
    private static final int ROAD_MINUTES = 6;
    private static final int ENTRY_FACTS = 7;

    private static final int ALL_HEADS = 0;
    private static final int PROFIT = 1;
    private static final int ALL_SHOWS = 2;
    private static final int ALL_FUEL = 3;
    private static final int ALL_EGGS = 4;
    private static final int RUN_FACTS = 5;

    private static final int ALLOW = 0;
    private static final int PRICE = 1;
    private static final int RENTER = 2;
    private static final int PARISH = 3;
    private static final int EGGS = 4;
    private static final int EXPRESSIONS = 5;

    private static final int HEADS_NAME = 10;
    private static final int NAMES = 11;

    private final byte[] tape = new byte[MOST_BYTES];
    private final int[] eggPrices = new int[NIGHTS];
    private final Land land = new Land();
    private final Fleet fleet = new Fleet();
    private final Row row = new Row();
    private final Law law = new Law();
    private final Reader reader = new Reader(tape);
    private final Notes notes = new Notes();
    private final Course course = new Course(land, fleet, row, law, eggPrices);
    private final Search search = new Search(land, fleet, course);
    private int taped;

    public VanShows() {
        Arrays.fill(eggPrices, 1);
    }

    public int feed(int a, int b, int c, int d, int e) {
        if (taped + 20 > MOST_BYTES) {
            return NONE;
        }
        putBytes(a);
        putBytes(b);
        putBytes(c);
        putBytes(d);
        putBytes(e);
        return taped;
    }

    private void putBytes(int four) {
        for (int shift = 24; shift >= 0; shift -= 8) {
            if (taped < MOST_BYTES) {
                tape[taped] = (byte) (four >> shift);
                taped++;
            }
        }
    }

    public int terms(int n) {
        if (n < 0 || n > taped) {
            return NO_SUCH;
        }
        taped = 0;
        if (!reader.readText(n)) {
            return NONE;
        }
        law.copyFrom(reader.draft);
        return law.lines;
    }

    public int fault(int what) {
        switch (what) {
            case 0:
                return reader.fault;
            case 1:
                return reader.faultPlace;
            default:
                return NONE;
        }
    }

    public int village(int people, int seats, int strict, int child) {
        boolean can = isWithin(people, 1, 999) && isWithin(seats, 1, 500)
            && isWithin(strict, 0, 9) && isWithin(child, 0, 100);
        if (!can || land.villages >= MOST_VILLAGES) {
            return NONE;
        }
        return land.addVillage(people, seats, strict, child);
    }

    public boolean like(int village, int genre, int n) {
        if (!land.hasVillage(village) || !isWithin(genre, 0, GENRES - 1) || !isWithin(n, 0, 100)) {
            return false;
        }
        land.facts[village][FIRST_LIKE + genre] = n;
        return true;
    }

    public int road(int a, int b, int minutes, int shut) {
        boolean can = land.hasVillage(a) && land.hasVillage(b) && a != b
            && isWithin(minutes, 1, 600) && isWithin(shut, 0, 15);
        if (!can || land.roads >= MOST_ROADS || (shut > 0 && land.passes >= MOST_PASSES)) {
            return NONE;
        }
        return land.addRoad(a, b, minutes, shut);
    }

    public int van(int village) {
        if (!land.hasVillage(village) || fleet.vans >= MOST_VANS) {
            return NONE;
        }
        return fleet.addVan(village);
    }

    public boolean broken(int van, int nights) {
        if (!fleet.hasVan(van) || !isWithin(nights, 0, (1 << NIGHTS) - 1)) {
            return false;
        }
        fleet.brokenNights[van] = nights;
        return true;
    }

    public int print(int genre, int age, int minutes, int van, int home, int due, int fine) {
        boolean can = isWithin(genre, 0, GENRES - 1) && isWithin(age, 0, 18) && isWithin(minutes, 10, 240)
            && fleet.hasVan(van) && land.hasVillage(home) && isWithin(due, 0, NIGHTS) && isWithin(fine, 0, 999);
        if (!can || fleet.prints >= MOST_PRINTS) {
            return NONE;
        }
        return fleet.addPrint(genre, age, minutes, van, home, due, fine);
    }

    public boolean egg(int night, int price) {
        if (!isNight(night) || !isWithin(price, 1, 99)) {
            return false;
        }
        eggPrices[night] = price;
        return true;
    }

    public int way(int a, int b, int shut) {
        if (!land.hasVillage(a) || !land.hasVillage(b) || !isWithin(shut, 0, 3)) {
            return NONE;
        }
        return land.fewestMinutes(a, b, shut);
    }

    public int entry(int night, int van, int village, int print) {
        boolean can = isNight(night) && fleet.hasVan(van) && land.hasVillage(village) && fleet.hasPrint(print);
        if (!can || row.entries >= MOST_ENTRIES) {
            return NONE;
        }
        return row.addEntry(night, van, village, print);
    }

    public int hand(int night, int print, int van) {
        boolean can = isNight(night) && fleet.hasPrint(print) && fleet.hasVan(van);
        if (!can || row.hands >= MOST_HANDS) {
            return NONE;
        }
        return row.addHand(night, print, van);
    }

    public int clear(int van) {
        if (van != NONE && !fleet.hasVan(van)) {
            return NO_SUCH;
        }
        int before = row.entries;
        if (van == NONE) {
            row.cutEntries(0);
            row.hands = 0;
        } else {
            row.dropVan(van);
        }
        return before - row.entries;
    }

    public int shown(int entry, int shut, int what) {
        if (!isWithin(entry, 0, row.entries - 1) || !isShut(shut) || !isWithin(what, 0, ENTRY_FACTS - 1)) {
            return NONE;
        }
        course.goThrough(row, shut);
        return course.told[what][entry];
    }

    public int run(int shut, int what) {
        if (!isShut(shut) || !isWithin(what, 0, RUN_FACTS - 1)) {
            return Integer.MIN_VALUE;
        }
        course.goThrough(row, shut);
        return course.totals[what];
    }

    public int where(int van, int night, int shut) {
        if (!fleet.hasVan(van) || !isNight(night) || !isShut(shut)) {
            return NONE;
        }
        course.goThrough(row, shut);
        return course.endings[van * NIGHTS + night];
    }

    public int printed(int print, int shut, int what) {
        if (!fleet.hasPrint(print) || !isShut(shut) || !isWithin(what, 0, 3)) {
            return NONE;
        }
        course.goThrough(row, shut);
        switch (what) {
            case 0:
                return course.holders[print];
            case 1:
                return course.backs[print];
            case 2:
                return course.nightsLate(print);
            default:
                return course.worn[print];
        }
    }

    public long expected(int what) {
        if (!isWithin(what, 0, 3)) {
            return Long.MIN_VALUE;
        }
        if (what == 3) {
            return 1L << (4 * NIGHTS * land.passes);
        }
        long sum = 0;
        for (int shut = 0; shut <= MOST_SHUT; shut++) {
            if (land.canBeShut(shut)) {
                course.goThrough(row, shut);
                sum += land.chanceOf(shut) * course.totals[what];
            }
        }
        return sum;
    }

    public int round(int van, int n) {
        if (!fleet.hasVan(van) || !isWithin(n, 1, MOST_ROUND_NIGHTS) || search.rowsFor(n) > Search.MOST_ROWS) {
            return NONE;
        }
        search.seek(row, van, n);
        return search.heads;
    }

    public int rounded(int what) {
        if (search.rows == 0 || !isWithin(what, 0, 4)) {
            return Integer.MIN_VALUE;
        }
        if (what == 0) {
            return search.profit;
        }
        return what == 4 ? search.rows : search.best[what - 1];
    }

    public int report(int village, int night, int heads) {
        boolean can = land.hasVillage(village) && isNight(night) && isWithin(heads, 0, 500);
        if (!can || notes.size >= MOST_NOTES) {
            return NONE;
        }
        return notes.addReport(village, night, heads);
    }

    public int strike(int note) {
        if (!isWithin(note, 0, notes.size - 1) || notes.size >= MOST_NOTES) {
            return NONE;
        }
        return notes.addStrike(note);
    }

    public int ends(int n, int what) {
        if (!isWithin(n, 0, notes.size) || !isWithin(what, 0, 2)) {
            return NONE;
        }
        notes.settle(n);
        course.goThrough(row, 0);
        int sum = 0;
        for (int i = 0; i < row.entries; i++) {
            if (course.told[CAUSE][i] == 0) {
                int village = row.entryVillages[i];
                sum += endOf(notes.known(village, row.entryNights[i]), land.facts[village][SEATS], what);
            }
        }
        return sum;
    }

    private static int endOf(int reported, int seats, int what) {
        boolean untold = reported == NONE;
        switch (what) {
            case 0:
                return untold ? 0 : reported;
            case 1:
                return untold ? seats : reported;
            default:
                return untold ? 1 : 0;
        }
    }

    public int look(int village, int what) throws IndexOutOfBoundsException, NoSuchElementException {
        if (!land.hasVillage(village)) {
            throw new IndexOutOfBoundsException("no such village");
        }
        if (!isWithin(what, 0, VILLAGE_FACTS - 1)) {
            throw new NoSuchElementException("no such what");
        }
        return land.facts[village][what];
    }

    public int count(int what) {
        switch (what) {
            case 0:
                return land.villages;
            case 1:
                return land.roads;
            case 2:
                return land.passes;
            case 3:
                return fleet.vans;
            case 4:
                return fleet.prints;
            case 5:
                return row.entries;
            case 6:
                return row.hands;
            case 7:
                return notes.size;
            case 8:
                return law.nightMinutes;
            case 9:
                return law.fuelPrice;
            case 10:
                return law.knots;
            default:
                return NONE;
        }
    }

    private static boolean isWithin(int n, int least, int most) {
        return n >= least && n <= most;
    }

    private static boolean isNight(int night) {
        return isWithin(night, 0, NIGHTS - 1);
    }

    private static boolean isShut(int shut) {
        return isWithin(shut, 0, MOST_SHUT);
    }

    /** The villages, and the roads and passes between them. */
    private static final class Land {
        /** Above every sum of minutes along a way: 14 roads of 600 are the most. */
        private static final int FAR = 1000000;
        private static final int CHANCES = 16;

        private final int[][] facts = new int[MOST_VILLAGES][VILLAGE_FACTS];
        /** By which passes are shut, then from village to village; kept true as roads come. */
        private final int[][] fewest = new int[1 << MOST_PASSES][MOST_VILLAGES * MOST_VILLAGES];
        private final int[] chances = new int[MOST_PASSES];
        private int villages;
        private int roads;
        private int passes;

        private Land() {
            for (int shut = 0; shut < 1 << MOST_PASSES; shut++) {
                Arrays.fill(fewest[shut], FAR);
                for (int village = 0; village < MOST_VILLAGES; village++) {
                    fewest[shut][village * MOST_VILLAGES + village] = 0;
                }
            }
        }

        private boolean hasVillage(int village) {
            return isWithin(village, 0, villages - 1);
        }

        private int addVillage(int people, int seats, int strict, int child) {
            int[] own = facts[villages];
            own[PEOPLE] = people;
            own[SEATS] = seats;
            own[STRICT] = strict;
            own[CHILD] = child;
            for (int genre = 0; genre < GENRES; genre++) {
                own[FIRST_LIKE + genre] = 50;
            }
            villages++;
            return villages - 1;
        }

        private int addRoad(int a, int b, int minutes, int shutChance) {
            int passBit = 0;
            if (shutChance > 0) {
                passBit = 1 << passes;
                chances[passes] = shutChance;
                passes++;
            }
            for (int shut = 0; shut < 1 << MOST_PASSES; shut++) {
                if ((shut & passBit) == 0) {
                    shorten(fewest[shut], a, b, minutes);
                }
            }
            roads++;
            return roads - 1;
        }

        /** One new road makes no way shorter but those that use it once, so one look at each pair is enough. */
        private static void shorten(int[] table, int a, int b, int minutes) {
            for (int from = 0; from < MOST_VILLAGES; from++) {
                for (int to = 0; to < MOST_VILLAGES; to++) {
                    int thither = table[from * MOST_VILLAGES + a] + table[b * MOST_VILLAGES + to];
                    int hither = table[from * MOST_VILLAGES + b] + table[a * MOST_VILLAGES + to];
                    int by = Math.min(thither, hither) + minutes;
                    if (by < table[from * MOST_VILLAGES + to]) {
                        table[from * MOST_VILLAGES + to] = by;
                    }
                }
            }
        }

        private int fewestMinutes(int a, int b, int shut) {
            int minutes = fewest[shut][a * MOST_VILLAGES + b];
            return minutes >= FAR ? NONE : minutes;
        }

        /** Whether no pass is shut there that isn't told, so that each way is met once. */
        private boolean canBeShut(int shut) {
            int tonight = (1 << passes) - 1;
            int all = 0;
            for (int night = 0; night < NIGHTS; night++) {
                all |= tonight << (MOST_PASSES * night);
            }
            return (shut & ~all) == 0;
        }

        private long chanceOf(int shut) {
            long chance = 1;
            for (int night = 0; night < NIGHTS; night++) {
                for (int pass = 0; pass < passes; pass++) {
                    boolean isShutThen = (shut >> (MOST_PASSES * night + pass) & 1) == 1;
                    chance *= isShutThen ? chances[pass] : CHANCES - chances[pass];
                }
            }
            return chance;
        }
    }

    /** The vans and the prints in them, as they are before the first night. */
    private static final class Fleet {
        private final int[] firstVillages = new int[MOST_VANS];
        private final int[] brokenNights = new int[MOST_VANS];
        private final int[][] printFacts = new int[MOST_PRINTS][PRINT_FACTS];
        private int vans;
        private int prints;

        private boolean hasVan(int van) {
            return isWithin(van, 0, vans - 1);
        }

        private boolean hasPrint(int print) {
            return isWithin(print, 0, prints - 1);
        }

        private boolean isBroken(int van, int night) {
            return (brokenNights[van] >> night & 1) == 1;
        }

        private int addVan(int village) {
            firstVillages[vans] = village;
            vans++;
            return vans - 1;
        }

        private int addPrint(int genre, int age, int minutes, int van, int home, int due, int fine) {
            int[] own = printFacts[prints];
            own[GENRE] = genre;
            own[AGE] = age;
            own[MINUTES] = minutes;
            own[FIRST_VAN] = van;
            own[HOME] = home;
            own[DUE] = due;
            own[FINE] = fine;
            prints++;
            return prints - 1;
        }
    }

    /** The entries and the hands; it has room for the entries that a search puts behind a full row. */
    private static final class Row {
        private static final int ROOM = MOST_ENTRIES + MOST_ROUND_NIGHTS;

        private final int[] entryNights = new int[ROOM];
        private final int[] entryVans = new int[ROOM];
        private final int[] entryVillages = new int[ROOM];
        private final int[] entryPrints = new int[ROOM];
        private final int[] handNights = new int[MOST_HANDS];
        private final int[] handPrints = new int[MOST_HANDS];
        private final int[] handVans = new int[MOST_HANDS];
        /** How many entries a van has in a night: a search goes through many rows that are nearly empty. */
        private final int[] planned = new int[NIGHTS * MOST_VANS];
        private int entries;
        private int hands;

        private int addEntry(int night, int van, int village, int print) {
            if (entries >= ROOM) {
                return NONE;
            }
            entryNights[entries] = night;
            entryVans[entries] = van;
            entryVillages[entries] = village;
            entryPrints[entries] = print;
            planned[night * MOST_VANS + van]++;
            entries++;
            return entries - 1;
        }

        private int addHand(int night, int print, int van) {
            handNights[hands] = night;
            handPrints[hands] = print;
            handVans[hands] = van;
            hands++;
            return hands - 1;
        }

        private boolean hasPlan(int night, int van) {
            return planned[night * MOST_VANS + van] > 0;
        }

        /** Only the first so many entries stay. */
        private void cutEntries(int left) {
            for (int i = left; i < entries; i++) {
                planned[entryNights[i] * MOST_VANS + entryVans[i]]--;
            }
            entries = Math.min(entries, left);
        }

        private void dropVan(int van) {
            takeOthers(this, van);
        }

        /** The entries of all vans but one; it may take them from itself, for it never writes ahead of its reading. */
        private void takeOthers(Row from, int van) {
            int all = from.entries;
            entries = 0;
            Arrays.fill(planned, 0);
            for (int i = 0; i < all; i++) {
                if (from.entryVans[i] != van) {
                    addEntry(from.entryNights[i], from.entryVans[i], from.entryVillages[i], from.entryPrints[i]);
                }
            }
        }

        private void takeHands(Row from) {
            int all = from.hands;
            hands = 0;
            for (int i = 0; i < all; i++) {
                addHand(from.handNights[i], from.handPrints[i], from.handVans[i]);
            }
        }
    }

    /** One run of a row, night by night, and what came of it. */
    private static final class Course {
        private static final int BROKEN = 1;
        private static final int TWO_SHOWS = 2;
        private static final int PRINT_ELSEWHERE = 3;
        private static final int NO_WAY = 4;
        private static final int TOO_LONG = 5;
        private static final int SHOWN_ALREADY = 6;
        private static final int NOT_ALLOWED = 7;

        private final Land land;
        private final Fleet fleet;
        private final Law law;
        private final int[] eggPrices;
        private final int[][] told = new int[ENTRY_FACTS][Row.ROOM];
        private final int[] totals = new int[RUN_FACTS];
        private final int[] places = new int[MOST_VANS];
        private final int[] endings = new int[MOST_VANS * NIGHTS];
        private final int[] vanMinutes = new int[MOST_VANS];
        private final int[] holders = new int[MOST_PRINTS];
        private final int[] backs = new int[MOST_PRINTS];
        private final int[] worn = new int[MOST_PRINTS];
        private final int[] seen = new int[MOST_PRINTS * MOST_VILLAGES];
        private final long[] facts = new long[NAMES];
        private Row row;
        private int night;
        private int shutTonight;
        private int villagesShown;
        private int tourMinutes;
        private int tourShows;

        private Course(Land land, Fleet fleet, Row row, Law law, int[] eggPrices) {
            this.land = land;
            this.fleet = fleet;
            this.row = row;
            this.law = law;
            this.eggPrices = eggPrices;
        }

        private void goThrough(Row asked, int shut) {
            row = asked;
            begin();
            for (int n = 0; n < NIGHTS; n++) {
                night = n;
                shutTonight = shut >> (MOST_PASSES * n) & 3;
                villagesShown = 0;
                handOn();
                for (int van = 0; van < fleet.vans; van++) {
                    if (row.hasPlan(n, van)) {
                        tour(van);
                    }
                }
                endNight();
            }
            payFuel();
            payFines();
        }

        private void begin() {
            Arrays.fill(totals, 0);
            Arrays.fill(vanMinutes, 0);
            Arrays.fill(worn, 0);
            Arrays.fill(seen, 0);
            Arrays.fill(backs, NONE);
            for (int van = 0; van < fleet.vans; van++) {
                places[van] = fleet.firstVillages[van];
            }
            for (int print = 0; print < fleet.prints; print++) {
                holders[print] = fleet.printFacts[print][FIRST_VAN];
            }
        }

        private void handOn() {
            for (int i = 0; i < row.hands; i++) {
                if (row.handNights[i] == night) {
                    int print = row.handPrints[i];
                    int giver = holders[print];
                    int getter = row.handVans[i];
                    boolean broken = fleet.isBroken(giver, night) || fleet.isBroken(getter, night);
                    if (!broken && places[giver] == places[getter]) {
                        holders[print] = getter;
                    }
                }
            }
        }

        private void tour(int van) {
            tourMinutes = 0;
            tourShows = 0;
            for (int i = 0; i < row.entries; i++) {
                if (row.entryNights[i] == night && row.entryVans[i] == van) {
                    int village = row.entryVillages[i];
                    int print = row.entryPrints[i];
                    forget(i);
                    told[CAUSE][i] = causeAgainst(van, village, print);
                    if (told[CAUSE][i] == 0) {
                        drive(i, van, village);
                        show(i, village, print);
                    }
                }
            }
        }

        /** An entry that is passed over has no heads and no coin, though another row's may have had some. */
        private void forget(int i) {
            for (int what = 0; what < ENTRY_FACTS; what++) {
                told[what][i] = 0;
            }
        }

        /** The first cause for which the entry is passed over, or 0; then the facts of the show are gathered. */
        private int causeAgainst(int van, int village, int print) {
            if (fleet.isBroken(van, night)) {
                return BROKEN;
            }
            if (tourShows >= 2) {
                return TWO_SHOWS;
            }
            if (holders[print] != van) {
                return PRINT_ELSEWHERE;
            }
            int onRoads = land.fewestMinutes(places[van], village, shutTonight);
            if (onRoads == NONE) {
                return NO_WAY;
            }
            if (tourMinutes + onRoads + fleet.printFacts[print][MINUTES] > law.nightMinutes) {
                return TOO_LONG;
            }
            if ((villagesShown >> village & 1) == 1) {
                return SHOWN_ALREADY;
            }
            gatherFacts(village, print);
            long allow = law.worth(ALLOW, facts);
            return allow == 0 || allow == Law.ERROR ? NOT_ALLOWED : 0;
        }

        /** In the order of the names in Tokens. */
        private void gatherFacts(int village, int print) {
            int[] ofVillage = land.facts[village];
            int[] ofPrint = fleet.printFacts[print];
            int genre = ofPrint[GENRE];
            facts[0] = ofVillage[PEOPLE];
            facts[1] = ofVillage[SEATS];
            facts[2] = ofVillage[STRICT];
            facts[3] = ofVillage[CHILD];
            facts[4] = ofVillage[FIRST_LIKE + genre];
            facts[5] = genre;
            facts[6] = ofPrint[AGE];
            facts[7] = ofPrint[MINUTES];
            facts[8] = night;
            facts[9] = worn[print];
            facts[HEADS_NAME] = headsAt(village, print);
        }

        private int headsAt(int village, int print) {
            int[] own = land.facts[village];
            int like = own[FIRST_LIKE + fleet.printFacts[print][GENRE]];
            int left = own[PEOPLE] * like / 100 - seen[print * MOST_VILLAGES + village];
            return Math.min(Math.max(left, 0), own[SEATS]);
        }

        private void drive(int i, int van, int village) {
            int onRoads = land.fewestMinutes(places[van], village, shutTonight);
            told[ROAD_MINUTES][i] = onRoads;
            vanMinutes[van] += onRoads;
            tourMinutes += onRoads;
            places[van] = village;
        }

        private void show(int i, int village, int print) {
            int heads = (int) facts[HEADS_NAME];
            int price = cut(law.worth(PRICE, facts), 999);
            int taken = heads * price;
            int toRenter = taken * cut(law.worth(RENTER, facts), 100) / 100;
            int toParish = (taken - toRenter) * cut(law.worth(PARISH, facts), 100) / 100;
            int eggs = heads * cut(law.worth(EGGS, facts), 100) / 100 * eggsEach(price);
            told[HEADS][i] = heads;
            told[TAKEN][i] = taken;
            told[RENTERS_PART][i] = toRenter;
            told[PARISH_PART][i] = toParish;
            told[EGGS_PAID][i] = eggs;
            totals[ALL_HEADS] += heads;
            totals[PROFIT] += taken - toRenter - toParish;
            totals[ALL_SHOWS]++;
            totals[ALL_EGGS] += eggs;
            tourMinutes += fleet.printFacts[print][MINUTES];
            tourShows++;
            villagesShown |= 1 << village;
            worn[print]++;
            seen[print * MOST_VILLAGES + village] += heads;
        }

        /** An error is the least long, so it is cut to 0 like all that is below. */
        private static int cut(long value, int most) {
            return (int) Math.max(0, Math.min(value, most));
        }

        private int eggsEach(int price) {
            int eggPrice = Math.max(eggPrices[night], 1);
            return (price + eggPrice - 1) / eggPrice;
        }

        private void endNight() {
            for (int van = 0; van < fleet.vans; van++) {
                endings[van * NIGHTS + night] = places[van];
            }
            for (int print = 0; print < fleet.prints; print++) {
                if (backs[print] == NONE && places[holders[print]] == fleet.printFacts[print][HOME]) {
                    backs[print] = night;
                }
            }
        }

        private void payFuel() {
            for (int van = 0; van < fleet.vans; van++) {
                int fuel = vanMinutes[van] * law.fuelPrice / 10;
                totals[ALL_FUEL] += fuel;
                totals[PROFIT] -= fuel;
            }
        }

        private void payFines() {
            for (int print = 0; print < fleet.prints; print++) {
                totals[PROFIT] -= nightsLate(print) * fleet.printFacts[print][FINE];
            }
        }

        /** A print that isn't back counts as back in the night behind the last: for due 4 that is never late. */
        private int nightsLate(int print) {
            int back = backs[print] == NONE ? NIGHTS : backs[print];
            return Math.max(back - fleet.printFacts[print][DUE], 0);
        }
    }

    /** The best round of a van: the latest one that was found, and the way to find one. */
    private static final class Search {
        private static final int MOST_ROWS = 1200;

        private final Land land;
        private final Fleet fleet;
        private final Course course;
        private final Row trial = new Row();
        private final int[] choices = new int[MOST_ROUND_NIGHTS];
        private final int[] best = new int[MOST_ROUND_NIGHTS];
        private int heads;
        private int profit;
        /** 0 while no round was found. */
        private int rows;

        private Search(Land land, Fleet fleet, Course course) {
            this.land = land;
            this.fleet = fleet;
            this.course = course;
        }

        private int choicesInNight() {
            return land.villages * fleet.prints + 1;
        }

        private int rowsFor(int nights) {
            int product = 1;
            for (int night = 0; night < nights; night++) {
                product *= choicesInNight();
            }
            return product;
        }

        private void seek(Row row, int van, int nights) {
            trial.takeOthers(row, van);
            trial.takeHands(row);
            int others = trial.entries;
            int all = rowsFor(nights);
            // the rows come in the order in which the first of several equals is the best one
            for (int number = 0; number < all; number++) {
                choose(number, nights);
                layTrial(others, van);
                course.goThrough(trial, 0);
                if (number == 0 || isBetter()) {
                    keep();
                }
            }
            rows = all;
        }

        /** A row's number is read as digits, one for each night, the first night's the highest. */
        private void choose(int number, int nights) {
            Arrays.fill(choices, NONE);
            int base = Math.max(choicesInNight(), 1);
            int prints = Math.max(fleet.prints, 1);
            int rest = number;
            for (int night = nights - 1; night >= 0; night--) {
                int digit = rest % base;
                rest /= base;
                if (digit > 0) {
                    choices[night] = 4 * ((digit - 1) / prints) + (digit - 1) % prints;
                }
            }
        }

        private void layTrial(int others, int van) {
            trial.cutEntries(others);
            for (int night = 0; night < MOST_ROUND_NIGHTS; night++) {
                if (choices[night] != NONE) {
                    trial.addEntry(night, van, choices[night] / 4, choices[night] % 4);
                }
            }
        }

        private boolean isBetter() {
            int nowHeads = course.totals[ALL_HEADS];
            return nowHeads > heads || (nowHeads == heads && course.totals[PROFIT] > profit);
        }

        private void keep() {
            heads = course.totals[ALL_HEADS];
            profit = course.totals[PROFIT];
            for (int night = 0; night < MOST_ROUND_NIGHTS; night++) {
                best[night] = choices[night];
            }
        }
    }

    /** Reports and strikes in the order in which they came. */
    private static final class Notes {
        private final int[] villages = new int[MOST_NOTES];
        private final int[] nights = new int[MOST_NOTES];
        private final int[] heads = new int[MOST_NOTES];
        /** The note that a strike strikes; NONE for a report. */
        private final int[] targets = new int[MOST_NOTES];
        private final int[] latest = new int[MOST_VILLAGES * NIGHTS];
        private int size;

        private int addReport(int village, int night, int number) {
            villages[size] = village;
            nights[size] = night;
            heads[size] = number;
            targets[size] = NONE;
            size++;
            return size - 1;
        }

        private int addStrike(int note) {
            targets[size] = note;
            size++;
            return size - 1;
        }

        /** A strike only strikes what came ahead of it: from the last note on, each one's fate is known when it is met. */
        private void settle(int n) {
            Arrays.fill(latest, NONE);
            long struck = 0;
            for (int i = n - 1; i >= 0; i--) {
                if ((struck >> i & 1) == 0) {
                    if (targets[i] != NONE) {
                        struck |= 1L << targets[i];
                    } else if (latest[villages[i] * NIGHTS + nights[i]] == NONE) {
                        latest[villages[i] * NIGHTS + nights[i]] = heads[i];
                    }
                }
            }
        }

        private int known(int village, int night) {
            return latest[village * NIGHTS + night];
        }
    }

    /** What a token is, and, from OR on, what a knot does. */
    private static final class Kind {
        private static final int END = 0;
        private static final int STRANGE = 1;
        private static final int WORD = 2;
        private static final int NUMBER = 3;
        private static final int NAME = 4;
        private static final int LINE_END = 5;
        private static final int CLOSE = 6;
        private static final int OPEN = 7;
        private static final int OR = 8;
        private static final int AND = 9;
        private static final int NOT = 10;
        private static final int LESS = 11;
        private static final int LESS_EQUAL = 12;
        private static final int EQUAL = 13;
        private static final int UNEQUAL = 14;
        private static final int GREATER_EQUAL = 15;
        private static final int GREATER = 16;
        private static final int PLUS = 17;
        private static final int MINUS = 18;
        private static final int TIMES = 19;
        private static final int OVER = 20;
        private static final int REST = 21;
        private static final int NEGATE = 22;

        private static final int COMPARING = 4;

        /** How tightly it binds; an open bracket holds back all that stands ahead of it. */
        private static int rank(int kind) {
            if (kind <= OPEN) {
                return 0;
            }
            if (kind <= NOT) {
                return kind - OPEN;
            }
            if (kind <= GREATER) {
                return COMPARING;
            }
            if (kind <= MINUS) {
                return 5;
            }
            return kind <= REST ? 6 : 7;
        }

        private static boolean joinsTwo(int kind) {
            return kind >= OR && kind <= REST && kind != NOT;
        }

        private static int ofSign(int sign) {
            switch (sign) {
                case ';':
                    return LINE_END;
                case '(':
                    return OPEN;
                case ')':
                    return CLOSE;
                case '<':
                    return LESS;
                case '=':
                    return EQUAL;
                case '>':
                    return GREATER;
                case '+':
                    return PLUS;
                case '-':
                    return MINUS;
                case '*':
                    return TIMES;
                case '/':
                    return OVER;
                case '%':
                    return REST;
                default:
                    return STRANGE;
            }
        }
    }

    /** The terms in force: each expression's knots lie behind their sides, so that one pass works them out. */
    private static final class Law {
        private static final int MOST_KNOTS = 64;
        private static final int[] WITHOUT_LINE = {1, 10, 40, 10, 0};
        private static final long ERROR = Long.MIN_VALUE;
        private static final long MOST = 1000000000000L;

        private final int[] kinds = new int[MOST_KNOTS];
        private final int[] values = new int[MOST_KNOTS];
        private final int[] starts = new int[EXPRESSIONS];
        private final int[] stops = new int[EXPRESSIONS];
        private final long[] stack = new long[MOST_KNOTS];
        private int nightMinutes = 600;
        private int fuelPrice = 5;
        private int lines;
        private int knots;

        private void reset() {
            Arrays.fill(starts, 0);
            Arrays.fill(stops, 0);
            nightMinutes = 600;
            fuelPrice = 5;
            lines = 0;
            knots = 0;
        }

        private void copyFrom(Law other) {
            System.arraycopy(other.kinds, 0, kinds, 0, MOST_KNOTS);
            System.arraycopy(other.values, 0, values, 0, MOST_KNOTS);
            System.arraycopy(other.starts, 0, starts, 0, EXPRESSIONS);
            System.arraycopy(other.stops, 0, stops, 0, EXPRESSIONS);
            nightMinutes = other.nightMinutes;
            fuelPrice = other.fuelPrice;
            lines = other.lines;
            knots = other.knots;
        }

        /** What a line's expression comes to, or ERROR. */
        private long worth(int line, long[] facts) {
            if (starts[line] == stops[line]) {
                return WITHOUT_LINE[line];
            }
            int top = 0;
            for (int k = starts[line]; k < stops[line]; k++) {
                int kind = kinds[k];
                if (kind == Kind.NUMBER || kind == Kind.NAME) {
                    stack[top] = kind == Kind.NUMBER ? values[k] : facts[values[k]];
                    top++;
                } else if (top < 1 || (top < 2 && Kind.joinsTwo(kind))) {
                    return ERROR;
                } else if (kind == Kind.NOT) {
                    stack[top - 1] = stack[top - 1] == 0 ? 1 : 0;
                } else if (kind == Kind.NEGATE) {
                    stack[top - 1] = -stack[top - 1];
                } else {
                    top--;
                    long value = joined(kind, stack[top - 1], stack[top]);
                    if (value > MOST || value < -MOST) {
                        return ERROR;
                    }
                    stack[top - 1] = value;
                }
            }
            return stack[0];
        }

        /** An ERROR is far beyond what a value may be, and so is refused with those that are too great. */
        private static long joined(int kind, long a, long b) {
            switch (kind) {
                case Kind.OR:
                    return a != 0 || b != 0 ? 1 : 0;
                case Kind.AND:
                    return a != 0 && b != 0 ? 1 : 0;
                case Kind.LESS:
                    return a < b ? 1 : 0;
                case Kind.LESS_EQUAL:
                    return a <= b ? 1 : 0;
                case Kind.EQUAL:
                    return a == b ? 1 : 0;
                case Kind.UNEQUAL:
                    return a != b ? 1 : 0;
                case Kind.GREATER_EQUAL:
                    return a >= b ? 1 : 0;
                case Kind.GREATER:
                    return a > b ? 1 : 0;
                case Kind.PLUS:
                    return a + b;
                case Kind.MINUS:
                    return a - b;
                case Kind.TIMES:
                    return product(a, b);
                case Kind.OVER:
                    return b == 0 ? ERROR : a / b;
                case Kind.REST:
                    return b == 0 ? ERROR : a % b;
                default:
                    return ERROR;
            }
        }

        /** Asked by a division, for the product itself may not fit a long. */
        private static long product(long a, long b) {
            long wide = a < 0 ? -a : a;
            long times = b < 0 ? -b : b;
            if (times == 0) {
                return 0;
            }
            return wide > MOST / times ? ERROR : a * b;
        }
    }

    /** The tokens of a text, one after the other. */
    private static final class Tokens {
        private static final String LINE_WORDS = "night fuel allow price renter parish eggs";
        private static final String NAME_WORDS = "people seats strict child like genre age minutes night worn heads";
        private static final String KNOT_WORDS = "or and not";
        /** Above every number that is allowed, and still an int with a digit more. */
        private static final int HUGE = 1000000;

        private final byte[] text;
        private int length;
        private int begin;
        private int next;
        private int kind;
        /** A number's value, or which name it is. */
        private int value;

        private Tokens(byte[] text) {
            this.text = text;
        }

        private void start(int n) {
            length = Math.min(n, text.length);
            next = 0;
        }

        private void advance() {
            while (next < length && (text[next] == 32 || text[next] == 10)) {
                next++;
            }
            begin = next;
            value = 0;
            if (next >= length) {
                kind = Kind.END;
            } else if (isLetter(next)) {
                readWord();
            } else if (isDigit(next)) {
                readNumber();
            } else {
                readSign();
            }
        }

        private boolean isLetter(int place) {
            return text[place] >= 'a' && text[place] <= 'z';
        }

        private boolean isDigit(int place) {
            return text[place] >= '0' && text[place] <= '9';
        }

        private void readWord() {
            kind = Kind.WORD;
            while (next < length && isLetter(next)) {
                next++;
            }
        }

        private void readNumber() {
            kind = Kind.NUMBER;
            while (next < length && isDigit(next)) {
                value = Math.min(value * 10 + text[next] - '0', HUGE);
                next++;
            }
        }

        private void readSign() {
            kind = Kind.ofSign(text[next]);
            next++;
            if (next >= length || (kind != Kind.LESS && kind != Kind.GREATER)) {
                return;
            }
            if (text[next] == '=') {
                kind = kind == Kind.LESS ? Kind.LESS_EQUAL : Kind.GREATER_EQUAL;
                next++;
            } else if (text[next] == '>' && kind == Kind.LESS) {
                kind = Kind.UNEQUAL;
                next++;
            }
        }

        /** Which line the token begins, or NONE. */
        private int lineWord() {
            return kind == Kind.WORD ? wordIn(LINE_WORDS) : NONE;
        }

        /** A word means one thing at a line's head and another inside an expression. */
        private void readAsPart() {
            if (kind != Kind.WORD) {
                return;
            }
            int knotWord = wordIn(KNOT_WORDS);
            int name = wordIn(NAME_WORDS);
            if (knotWord != NONE) {
                kind = Kind.OR + knotWord;
            } else if (name != NONE) {
                kind = Kind.NAME;
                value = name;
            } else {
                kind = Kind.STRANGE;
            }
        }

        private int wordIn(String words) {
            int number = 0;
            int from = 0;
            for (int i = 0; i <= words.length(); i++) {
                if (i == words.length() || words.charAt(i) == ' ') {
                    if (isWord(words, from, i)) {
                        return number;
                    }
                    number++;
                    from = i + 1;
                }
            }
            return NONE;
        }

        private boolean isWord(String words, int from, int to) {
            if (to - from != next - begin) {
                return false;
            }
            for (int i = from; i < to; i++) {
                if (words.charAt(i) != text[begin + i - from]) {
                    return false;
                }
            }
            return true;
        }
    }

    /** Reads a text of terms into a draft, up to its first fault. */
    private static final class Reader {
        private static final int MOST_OPEN = 8;
        private static final int MOST_NUMBER = 99999;
        private static final int NIGHT_LINE = 0;
        private static final int FIRST_EXPRESSION = 2;

        private static final int CANNOT_STAND = 1;
        private static final int TOO_MUCH = 2;
        private static final int TOLD_ALREADY = 3;
        private static final int HEADS_UNKNOWN = 4;

        private final Tokens tokens;
        private final Law draft = new Law();
        /** Knots and open brackets whose last side isn't read yet. */
        private final int[] waiting = new int[Law.MOST_KNOTS + MOST_OPEN];
        private int waitingSize;
        private int open;
        private int written;
        private int linesTold;
        private int fault;
        private int faultPlace = NONE;

        private Reader(byte[] text) {
            tokens = new Tokens(text);
        }

        /** Whether it has no fault. */
        private boolean readText(int n) {
            tokens.start(n);
            draft.reset();
            written = 0;
            linesTold = 0;
            fault = 0;
            faultPlace = NONE;
            for (int k = 0; k <= MOST_BYTES; k++) {
                tokens.advance();
                if (tokens.kind == Kind.END) {
                    return true;
                }
                if (!readLine()) {
                    return false;
                }
            }
            return failed(CANNOT_STAND);
        }

        private boolean failed(int which) {
            fault = which;
            faultPlace = tokens.begin;
            return false;
        }

        private boolean readLine() {
            int line = tokens.lineWord();
            if (line == NONE) {
                return failed(CANNOT_STAND);
            }
            if ((linesTold >> line & 1) == 1) {
                return failed(TOLD_ALREADY);
            }
            linesTold |= 1 << line;
            draft.lines++;
            return line < FIRST_EXPRESSION ? readSetting(line) : readExpression(line - FIRST_EXPRESSION);
        }

        private boolean readSetting(int line) {
            tokens.advance();
            if (tokens.kind != Kind.NUMBER) {
                return failed(CANNOT_STAND);
            }
            boolean can = line == NIGHT_LINE ? isWithin(tokens.value, 60, 900) : isWithin(tokens.value, 0, 99);
            if (!can) {
                return failed(TOO_MUCH);
            }
            if (line == NIGHT_LINE) {
                draft.nightMinutes = tokens.value;
            } else {
                draft.fuelPrice = tokens.value;
            }
            tokens.advance();
            return tokens.kind == Kind.LINE_END || failed(CANNOT_STAND);
        }

        private boolean readExpression(int line) {
            waitingSize = 0;
            open = 0;
            draft.starts[line] = written;
            boolean partDue = true;
            for (int k = 0; k <= MOST_BYTES; k++) {
                tokens.advance();
                tokens.readAsPart();
                int kind = tokens.kind;
                if (partDue) {
                    if (!readPart(kind, line)) {
                        return false;
                    }
                    partDue = kind != Kind.NUMBER && kind != Kind.NAME;
                } else if (kind == Kind.LINE_END && open == 0) {
                    writeWaiting(0);
                    draft.stops[line] = written;
                    return true;
                } else if (kind == Kind.CLOSE && open > 0) {
                    closeBracket();
                } else {
                    if (!readJoin(kind)) {
                        return false;
                    }
                    partDue = true;
                }
            }
            return failed(CANNOT_STAND);
        }

        /** Where a side is due: a number, a name, or what stands ahead of one. */
        private boolean readPart(int kind, int line) {
            switch (kind) {
                case Kind.NUMBER:
                    return tokens.value > MOST_NUMBER ? failed(TOO_MUCH) : countKnot() && write(kind, tokens.value);
                case Kind.NAME:
                    return readName(line);
                case Kind.OPEN:
                    return openBracket();
                case Kind.MINUS:
                    return countKnot() && putWaiting(Kind.NEGATE);
                case Kind.NOT:
                    return notMayStand() ? countKnot() && putWaiting(kind) : failed(CANNOT_STAND);
                default:
                    return failed(CANNOT_STAND);
            }
        }

        private boolean readName(int line) {
            if (!countKnot()) {
                return false;
            }
            if (tokens.value == HEADS_NAME && (line == ALLOW || line == PRICE)) {
                return failed(HEADS_UNKNOWN);
            }
            return write(Kind.NAME, tokens.value);
        }

        private boolean openBracket() {
            if (open >= MOST_OPEN) {
                return failed(TOO_MUCH);
            }
            open++;
            return putWaiting(Kind.OPEN);
        }

        private void closeBracket() {
            writeWaiting(0);
            open--;
            if (waitingSize > 0) {
                waitingSize--;
            }
        }

        /** The language has no not behind a sign or a comparison, though its value would be a number. */
        private boolean notMayStand() {
            return waitingSize == 0 || Kind.rank(waiting[waitingSize - 1]) <= Kind.rank(Kind.NOT);
        }

        private boolean readJoin(int kind) {
            if (!Kind.joinsTwo(kind)) {
                return failed(CANNOT_STAND);
            }
            int rank = Kind.rank(kind);
            writeWaiting(rank);
            // only a comparison still waits behind a sign of its own rank: the language has no two in a row
            if (waitingSize > 0 && Kind.rank(waiting[waitingSize - 1]) == rank) {
                return failed(CANNOT_STAND);
            }
            return countKnot() && putWaiting(kind);
        }

        private boolean countKnot() {
            if (draft.knots >= Law.MOST_KNOTS) {
                return failed(TOO_MUCH);
            }
            draft.knots++;
            return true;
        }

        private boolean putWaiting(int kind) {
            if (waitingSize >= waiting.length) {
                return failed(TOO_MUCH);
            }
            waiting[waitingSize] = kind;
            waitingSize++;
            return true;
        }

        private boolean write(int kind, int value) {
            if (written >= Law.MOST_KNOTS) {
                return failed(TOO_MUCH);
            }
            draft.kinds[written] = kind;
            draft.values[written] = value;
            written++;
            return true;
        }

        /** Writes what binds at least as tightly as the rank, but never past an open bracket; comparisons wait. */
        private void writeWaiting(int rank) {
            while (waitingSize > 0) {
                int kind = waiting[waitingSize - 1];
                boolean stays = kind == Kind.OPEN || Kind.rank(kind) < rank
                    || (rank == Kind.COMPARING && Kind.rank(kind) == rank);
                if (stays) {
                    return;
                }
                waitingSize--;
                write(kind, 0);
            }
        }
    }
}
