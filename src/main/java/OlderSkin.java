import java.util.Arrays;

/**
 * A map on an older skin: what its sheets, worm holes, lines, dots, places and sister maps tell,
 * and the stories that weigh it all. The promises stand in the project's document.
 */
public final class OlderSkin {
    public static final int BAD = -1, NOT = -2, FULL = -3, BIG = -4, STATE = -5, VOID = -2000000000;

    private static final int NOTHING_THERE = -11, OTHER_KIND = -12, NO_PLACE = -13, BELOW_ZERO = -14;
    private static final int LAST_YEAR = 2000, UNKNOWN_YEAR = 2001;
    private static final int MOST_SLACK = 99, STORY_SLACK = 5;
    private static final int MOST_ORDERED = 6;
    private static final int MOST_STUFF = 9999;
    private static final int INKS = 6, BARE_SKIN = 6, OLD_BOOK = 7;
    private static final int HOUSES = 5;
    private static final int ALL_HOUSES = 31, ALL_INKS = 63;
    private static final int MOST_TRIES = 50;
    private static final int MOST_PRIOR = 99;
    private static final int FIRST_INK = -1, RING = -2;

    private final Sheets sheets = new Sheets();
    private final Orders orders = new Orders();
    private final Lines lines = new Lines();
    private final Dots dots = new Dots();
    private final Places places = new Places();
    private final Maps maps = new Maps();
    private final Tape tape = new Tape();
    private final Stories stories = new Stories();
    private final Changes changes = new Changes();
    private final Bodies bodies = new Bodies();
    private final Shelves shelves = new Shelves();
    /** What each name stands for in the story that is weighed, in the order of Tape.NAMES. */
    private final int[] names = new int[Tape.NAMES.length()];

    public OlderSkin() {
    }

    // ---- sheets, holes

    public int sheet(int age) {
        if (!isYear(age)) {
            return BAD;
        }
        return sheets.add(age);
    }

    public int age(int sheet, int v) {
        if (!sheets.isSheet(sheet) || !isYear(v)) {
            return BAD;
        }
        return change(Changes.AGE, sheet, v);
    }

    public int hole(int sheet, int place) {
        if (!sheets.isSheet(sheet) || !within(place, 0, 999)) {
            return BAD;
        }
        return sheets.addHole(sheet, place);
    }

    public int worms(int slack, int i) {
        if (!isSlack(slack) || i < -1) {
            return BAD;
        }
        sheets.findWorms(slack, sheets.all());
        if (i == -1) {
            return sheets.worms;
        }
        return i < sheets.worms ? sheets.wormSheets[i] : BAD;
    }

    public int led(int hole, int slack) {
        if (!sheets.isHole(hole) || !isSlack(slack)) {
            return BAD;
        }
        sheets.findWorms(slack, sheets.all());
        return sheets.wormOf[hole];
    }

    public int orders(int slack, int what) {
        if (!isSlack(slack) || !isBit(what)) {
            return BAD;
        }
        if (sheets.count > MOST_ORDERED) {
            return BIG;
        }
        findOrders(slack, sheets.all());
        return what == 0 ? orders.howMany() : orders.firstAsDigits();
    }

    public int side(int slack, int st, int what) {
        int one = st / 10;
        int other = st % 10;
        if (!isSlack(slack) || !sheets.isSheet(one) || !sheets.isSheet(other) || one == other || !isBit(what)) {
            return BAD;
        }
        if (sheets.count > MOST_ORDERED) {
            return BIG;
        }
        findOrders(slack, sheets.all());
        int all = orders.howMany();
        if (all == 0) {
            return NOT;
        }
        int near = orders.sideBySide(one, other);
        return asBit(what == 0 ? near == all : near > 0);
    }

    public int without(int slack, int sheet) {
        if (!isSlack(slack) || !sheets.isSheet(sheet)) {
            return BAD;
        }
        if (sheets.count - 1 > MOST_ORDERED) {
            return BIG;
        }
        findOrders(slack, sheets.all() & ~(1 << sheet));
        return orders.howMany();
    }

    private void findOrders(int slack, int among) {
        sheets.findWorms(slack, among);
        orders.lay(among, sheets.wormSheets, sheets.worms);
    }

    // ---- lines, inks

    public int line(int sheet, int ink) {
        if (!sheets.isSheet(sheet) || !isInk(ink)) {
            return BAD;
        }
        return lines.add(sheet, ink);
    }

    public int mark(int lh, int over) {
        int line = lh / 100;
        int hole = lh % 100;
        if (!lines.isLine(line) || !sheets.isHole(hole) || !isBit(over)) {
            return BAD;
        }
        if (lines.sheetOf[line] != sheets.sheetOf[hole]) {
            return BAD;
        }
        return lines.tellMark(line, hole, over);
    }

    public int fight(int slack, int what) {
        if (!isSlack(slack) || !isBit(what)) {
            return BAD;
        }
        findInks(slack);
        int line = lines.firstFighting(sheets.wormOf);
        if (line < 0) {
            return NOT;
        }
        return what == 0 ? line : lines.foughtWorm(line, sheets.wormOf);
    }

    public int inks(int slack, int ij) {
        if (!isSlack(slack)) {
            return BAD;
        }
        findInks(slack);
        if (ij == FIRST_INK) {
            return lines.firstInk();
        }
        if (ij == RING) {
            return lines.leastRing();
        }
        int one = ij / 10;
        int other = ij % 10;
        if (!isInk(one) || !isInk(other) || one == other) {
            return BAD;
        }
        return asBit(lines.cameAhead(one, other));
    }

    private void findInks(int slack) {
        sheets.findWorms(slack, sheets.all());
        lines.findInks(sheets.wormOf, sheets.worms);
    }

    // ---- dots

    public int dot(int hi, int stuff) {
        int house = hi / 10;
        int ink = hi % 10;
        if (!isDot(house, ink, stuff)) {
            return BAD;
        }
        return dots.add(house, ink, stuff);
    }

    public int mend(int dot, int v) {
        if (!dots.isOne(dot) || !isStuff(v)) {
            return BAD;
        }
        return change(Changes.STUFF, dot, v);
    }

    public int dots(int shelf, int i, int n) {
        if (!shelves.isShelf(shelf) || !within(n, 1, 20)) {
            return BAD;
        }
        if (shelves.isBare(shelf)) {
            return 0;
        }
        if (!shelves.holdsSort(shelf, Shelves.SHORTS)) {
            return OTHER_KIND;
        }
        int came = 0;
        for (int k = 0; k < n; k++) {
            if (!dotComes(shelf, i + 3 * k)) {
                break;
            }
            came++;
        }
        return came;
    }

    private boolean dotComes(int shelf, int at) {
        if (dots.isFull() || !shelves.hasPlaces(shelf, at, 3)) {
            return false;
        }
        int house = (int) shelves.values[shelf][at];
        int ink = (int) shelves.values[shelf][at + 1];
        int stuff = (int) shelves.values[shelf][at + 2];
        if (!isDot(house, ink, stuff)) {
            return false;
        }
        dots.add(house, ink, stuff);
        return true;
    }

    public int mean(int hi) {
        int house = hi / 10;
        int ink = hi % 10;
        if (!within(house, 0, HOUSES) || !within(ink, 0, OLD_BOOK)) {
            return BAD;
        }
        return dots.meanOf(house == HOUSES ? ALL_HOUSES : 1 << house, 1 << ink);
    }

    public int odd(int ink) {
        if (!within(ink, 0, BARE_SKIN)) {
            return BAD;
        }
        return dots.oddOnes(ink);
    }

    public int chance(int ink, int seed, int n) {
        if (!within(ink, 0, BARE_SKIN) || !within(n, 1, MOST_TRIES)) {
            return BAD;
        }
        if (dots.howMany(ink) == 0 || dots.howMany(OLD_BOOK) == 0) {
            return NOT;
        }
        return dots.byChance(ink, seed, n);
    }

    public int chosen(int house) {
        if (!within(house, 0, HOUSES - 1)) {
            return VOID;
        }
        int its = dots.meanOf(1 << house, ALL_INKS);
        int others = dots.meanOf(ALL_HOUSES & ~(1 << house), ALL_INKS);
        return its == NOT || others == NOT ? VOID : its - others;
    }

    public int made(int year, int bound) {
        if (!within(year, 0, UNKNOWN_YEAR) || !isStuff(bound)) {
            return BAD;
        }
        int was = dots.madeIn;
        dots.madeIn = year;
        dots.bound = bound;
        return was;
    }

    public int bars(int ink, int year) {
        if (!isInk(ink) || !isYear(year)) {
            return BAD;
        }
        return asBit(dots.inkBars(ink, year));
    }

    // ---- places, maps

    public int place(int known, int truly, int drawn) {
        if (!isYear(known) || !within(truly, 0, 9999) || !within(drawn, 0, 9999)) {
            return BAD;
        }
        return places.add(known, truly, drawn);
    }

    public int late(int year, int what) {
        if (!isYear(year) || !isBit(what)) {
            return BAD;
        }
        return what == 0 ? places.lateOnes(year) : places.lateOff(year);
    }

    public int well(int year, int seed, int n) {
        if (!isYear(year) || !within(n, 1, MOST_TRIES)) {
            return BAD;
        }
        if (places.lateOnes(year) == 0) {
            return NOT;
        }
        return places.guessedAsWell(year, seed, n);
    }

    public int map(int year, int slips) {
        if (!isYear(year) || !within(slips, 0, 65535)) {
            return BAD;
        }
        return maps.add(year, slips);
    }

    public int father(int map, int what) {
        if (!maps.isMap(map) || !isBit(what)) {
            return BAD;
        }
        int father = maps.fatherOf(map);
        if (father < 0) {
            return NOT;
        }
        return what == 0 ? father : maps.apart(map, father);
    }

    public int hangs(int mn) {
        int one = mn / 10;
        int other = mn % 10;
        if (!maps.isMap(one) || !maps.isMap(other)) {
            return BAD;
        }
        return asBit(maps.leadsTo(one, other));
    }

    public int shared(int mn) {
        if (mn == -1) {
            return maps.tree();
        }
        int one = mn / 10;
        int other = mn % 10;
        if (!maps.isMap(one) || !maps.isMap(other) || one == other) {
            return BAD;
        }
        return maps.sharedSlips(one, other);
    }

    // ---- stories

    public int feed(int n, int v) {
        if (!within(n, 1, 4)) {
            return BAD;
        }
        return tape.take(n, v);
    }

    public int story(int year, int prior) {
        if (!isYear(year) || !isPrior(prior)) {
            return BAD;
        }
        if (stories.isFull()) {
            return FULL;
        }
        boolean goes = tape.read();
        tape.count = 0;
        if (!goes) {
            return -100 - tape.at;
        }
        return stories.add(year, prior, tape.steps, tape.size);
    }

    public int prior(int story, int v) {
        if (!stories.isStory(story) || !isPrior(v)) {
            return BAD;
        }
        return change(Changes.PRIOR, story, v);
    }

    public int odds(int story, int what) {
        if (!stories.isStory(story) || !isBit(what)) {
            return BAD;
        }
        weighStories();
        return what == 0 ? stories.weights[story] : stories.oddsOf(story);
    }

    public int best() {
        if (stories.count == 0) {
            return STATE;
        }
        weighStories();
        return stories.bestOne();
    }

    public int next(int h, int what) {
        if (!isStuff(h) || !isBit(what)) {
            return BAD;
        }
        if (stories.count == 0 || dots.isFull()) {
            return STATE;
        }
        weighStories();
        int story = stories.bestOne();
        int now = stories.oddsOf(story);
        if (now == NOT) {
            return NOT;
        }
        int ink = 0;
        int greatest = -1;
        for (int k = 0; k <= OLD_BOOK; k++) {
            int moved = Math.max(movedBy(k, 0, story, now), movedBy(k, h, story, now));
            if (moved > greatest) {
                ink = k;
                greatest = moved;
            }
        }
        return what == 0 ? ink : greatest;
    }

    /** The dot is laid and taken away again, so that the odds are worked out in one way alone. */
    private int movedBy(int ink, int stuff, int story, int now) {
        dots.add(0, ink, stuff);
        weighStories();
        dots.dropLast();
        int then = stories.oddsOf(story);
        return Math.abs((then == NOT ? 0 : then) - now);
    }

    private void weighStories() {
        findInks(STORY_SLACK);
        names[0] = lines.marksThatAre(1);
        names[1] = lines.marksThatAre(0);
        names[2] = Math.max(dots.meanOf(ALL_HOUSES, ALL_INKS), 0);
        names[3] = Math.max(dots.meanOf(ALL_HOUSES, 1 << OLD_BOOK), 0);
        names[6] = asBit(lines.firstFighting(sheets.wormOf) >= 0);
        for (int k = 0; k < stories.count; k++) {
            int year = stories.years[k];
            names[4] = places.lateOnes(year);
            names[5] = asBit(dots.someInkBars(year));
            names[7] = Math.max(sheets.youngest() - year, 0);
            stories.weigh(k, names);
        }
    }

    public int undo() {
        if (changes.done == 0) {
            return STATE;
        }
        int k = changes.stepBack();
        become(changes.sorts[k], changes.which[k], changes.was[k]);
        return changes.done;
    }

    public int redo() {
        if (changes.done == changes.kept) {
            return STATE;
        }
        int k = changes.stepOn();
        become(changes.sorts[k], changes.which[k], changes.became[k]);
        return changes.kept - changes.done;
    }

    private int change(int sort, int which, int v) {
        int was = become(sort, which, v);
        if (was != v) {
            changes.add(sort, which, was, v);
        }
        return was;
    }

    /** Sets the number that a change is about, and answers what it was. */
    private int become(int sort, int which, int v) {
        int[] row = sort == Changes.STUFF ? dots.stuffs : sort == Changes.PRIOR ? stories.priors : sheets.ages;
        if (!within(which, 0, row.length - 1)) {
            return v;
        }
        int was = row[which];
        row[which] = v;
        return was;
    }

    // ---- acts, shelves

    public int body(int kind) {
        if (!within(kind, 0, Bodies.KINDS - 1)) {
            return BAD;
        }
        return bodies.add(kind);
    }

    public int act(int body, int act, int x) {
        return bodies.start(body, act, x);
    }

    public int trace(int i) {
        return within(i, 0, bodies.traced() - 1) ? bodies.trace[i] : BAD;
    }

    public int keep(int shelf, int body) {
        if (!shelves.isShelf(shelf) || body != -1 && !bodies.isBody(body)) {
            return BAD;
        }
        if (body == -1) {
            shelves.clear(shelf);
        } else {
            shelves.layBody(shelf, bodies.kinds[body]);
        }
        return 1;
    }

    public int row(int shelf, int sort, int n) {
        if (!shelves.isShelf(shelf) || !within(sort, 0, Shelves.BOOLEANS) || n > Shelves.MOST_PLACES) {
            return BAD;
        }
        if (n < 0) {
            return BELOW_ZERO;
        }
        shelves.layRow(shelf, sort, n);
        return 1;
    }

    public int put(int shelf, int i, long v) {
        int refusal = shelves.refusal(shelf, i);
        if (refusal != 0) {
            return refusal;
        }
        shelves.values[shelf][i] = shelves.lowBits(shelf, v);
        return 1;
    }

    public long element(int shelf, int i) {
        return shelves.refusal(shelf, i) != 0 ? Long.MIN_VALUE : shelves.values[shelf][i];
    }

    public int shift(int shelf, int i, int other, int j, int n) {
        if (!shelves.isShelf(shelf) || !shelves.isShelf(other)) {
            return BAD;
        }
        if (shelves.isBare(shelf) || shelves.isBare(other)) {
            return NOTHING_THERE;
        }
        if (!shelves.areAlikeRows(shelf, other)) {
            return OTHER_KIND;
        }
        if (!shelves.hasPlaces(shelf, i, n) || !shelves.hasPlaces(other, j, n)) {
            return NO_PLACE;
        }
        System.arraycopy(shelves.values[shelf], i, shelves.values[other], j, n);
        return n;
    }

    public int taken(int shelf, int k) {
        if (!shelves.isShelf(shelf) || !within(k, 0, Bodies.KINDS - 1)) {
            return BAD;
        }
        if (shelves.isBare(shelf)) {
            return NOTHING_THERE;
        }
        if (!shelves.holdsSort(shelf, Shelves.BODY) || !bodies.isUnder(shelves.bodyKinds[shelf], k)) {
            return OTHER_KIND;
        }
        return shelves.bodyKinds[shelf];
    }

    public int count(int what) {
        switch (what) {
            case 0: return sheets.count;
            case 1: return sheets.holes;
            case 2: return lines.count;
            case 3: return lines.marks;
            case 4: return dots.count;
            case 5: return places.count;
            case 6: return maps.count;
            case 7: return tape.count;
            case 8: return stories.count;
            case 9: return changes.done;
            case 10: return bodies.count;
            case 11: return bodies.ran;
            default: return BAD;
        }
    }

    // ---- what the calls have in common

    private static boolean within(int v, int low, int high) {
        return low <= v && v <= high;
    }

    private static boolean isYear(int v) {
        return within(v, 0, LAST_YEAR);
    }

    private static boolean isSlack(int v) {
        return within(v, 0, MOST_SLACK);
    }

    private static boolean isBit(int v) {
        return v == 0 || v == 1;
    }

    private static int asBit(boolean v) {
        return v ? 1 : 0;
    }

    private static boolean isInk(int v) {
        return within(v, 0, INKS - 1);
    }

    private static boolean isStuff(int v) {
        return within(v, 0, MOST_STUFF);
    }

    private static boolean isPrior(int v) {
        return within(v, 1, MOST_PRIOR);
    }

    private static boolean isDot(int house, int ink, int stuff) {
        return within(house, 0, HOUSES - 1) && within(ink, 0, OLD_BOOK) && isStuff(stuff);
    }

    private static boolean hasBit(int bits, int bit) {
        return (bits >> bit & 1) != 0;
    }

    /** The next z of all draws and shuffles. */
    private static int drawn(int z) {
        return z * 1103515245 + 12345;
    }

    /** Sheets, their holes, and the worms that were found last. */
    private static final class Sheets {
        final int[] ages = new int[8];
        int count;
        final int[] sheetOf = new int[40];
        final int[] placeOf = new int[40];
        /** Holes by place; kept in order as they come, since neither place nor number ever changes. */
        final int[] byPlace = new int[40];
        int holes;
        final int[] wormOf = new int[40];
        final int[] wormSheets = new int[40];
        int worms;

        boolean isSheet(int v) {
            return within(v, 0, count - 1);
        }

        boolean isHole(int v) {
            return within(v, 0, holes - 1);
        }

        int all() {
            return (1 << count) - 1;
        }

        int add(int age) {
            if (count == ages.length) {
                return FULL;
            }
            ages[count] = age;
            return count++;
        }

        int addHole(int sheet, int place) {
            if (holes == sheetOf.length) {
                return FULL;
            }
            int at = holes;
            while (at > 0 && placeOf[byPlace[at - 1]] > place) {
                byPlace[at] = byPlace[at - 1];
                at--;
            }
            byPlace[at] = holes;
            sheetOf[holes] = sheet;
            placeOf[holes] = place;
            return holes++;
        }

        /** Worms through those sheets alone whose bits are set. */
        void findWorms(int slack, int among) {
            worms = 0;
            int ahead = -1;
            for (int k = 0; k < holes; k++) {
                int hole = byPlace[k];
                int bit = 1 << sheetOf[hole];
                if ((among & bit) == 0) {
                    continue;
                }
                if (ahead < 0 || placeOf[hole] - placeOf[ahead] > slack || (wormSheets[worms - 1] & bit) != 0) {
                    wormSheets[worms] = 0;
                    worms++;
                }
                wormSheets[worms - 1] |= bit;
                wormOf[hole] = worms - 1;
                ahead = hole;
            }
        }

        /** The year of the sheet that was made last; 0 without sheets, as then no story's year is beaten. */
        int youngest() {
            int year = 0;
            for (int k = 0; k < count; k++) {
                year = Math.max(year, ages[k]);
            }
            return year;
        }
    }

    /**
     * Orders of sheets that let all worms, counted over sets of sheets (as bits) and not one by one:
     * whether a sheet may lie next hangs only on which sheets lie ahead, not on how these lie.
     */
    private static final class Orders {
        private int all;
        private final int[] mayFollow = new int[256];
        private final int[] waysTo = new int[256];
        private final int[] waysOn = new int[256];

        void lay(int among, int[] worms, int n) {
            all = among;
            for (int laid = 0; laid <= all; laid++) {
                mayFollow[laid] = thoseThatMayFollow(laid, worms, n);
            }
            countWaysTo();
            countWaysOn();
        }

        /** A worm that has begun and not ended lets only its own sheets lie next. */
        private int thoseThatMayFollow(int laid, int[] worms, int n) {
            if ((laid & ~all) != 0) {
                return 0;
            }
            int may = all & ~laid;
            for (int k = 0; k < n; k++) {
                if ((worms[k] & laid) != 0 && (worms[k] & ~laid) != 0) {
                    may &= worms[k];
                }
            }
            return may;
        }

        private void countWaysTo() {
            Arrays.fill(waysTo, 0);
            waysTo[0] = 1;
            for (int laid = 0; laid <= all; laid++) {
                for (int s = 0; s < 8; s++) {
                    if (hasBit(mayFollow[laid], s)) {
                        waysTo[laid | 1 << s] += waysTo[laid];
                    }
                }
            }
        }

        private void countWaysOn() {
            Arrays.fill(waysOn, 0);
            waysOn[all] = 1;
            for (int laid = all; laid >= 0; laid--) {
                for (int s = 0; s < 8; s++) {
                    if (hasBit(mayFollow[laid], s)) {
                        waysOn[laid] += waysOn[laid | 1 << s];
                    }
                }
            }
        }

        int howMany() {
            return waysOn[0];
        }

        int firstAsDigits() {
            if (waysOn[0] == 0) {
                return NOT;
            }
            int laid = 0;
            int digits = 0;
            for (int k = 0; k < 8 && laid != all; k++) {
                int s = leastThatGoesOn(laid);
                laid |= 1 << s;
                digits = digits * 10 + s + 1;
            }
            return digits;
        }

        private int leastThatGoesOn(int laid) {
            int s = 0;
            while (s < 7 && !(hasBit(mayFollow[laid], s) && waysOn[laid | 1 << s] > 0)) {
                s++;
            }
            return s;
        }

        /** In how many orders the two lie side by side, either way about. */
        int sideBySide(int one, int other) {
            return oneThenOther(one, other) + oneThenOther(other, one);
        }

        private int oneThenOther(int one, int other) {
            int ways = 0;
            for (int laid = 0; laid <= all; laid++) {
                int then = laid | 1 << one;
                if (hasBit(mayFollow[laid], one) && hasBit(mayFollow[then], other)) {
                    ways += waysTo[laid] * waysOn[then | 1 << other];
                }
            }
            return ways;
        }
    }

    /** Lines, their marks, and what the marks tell of inks by the worms that were found last. */
    private static final class Lines {
        final int[] sheetOf = new int[20];
        private final int[] inkOf = new int[20];
        int count;
        private final int[] markLine = new int[60];
        private final int[] markHole = new int[60];
        private final int[] markOver = new int[60];
        int marks;
        /** For each worm the inks, as bits, that are over its holes, and those round them. */
        private final int[] inksOver = new int[40];
        private final int[] inksRound = new int[40];
        /** For each ink the other ones that came ahead of it, as bits. */
        private final int[] inksAhead = new int[INKS];

        boolean isLine(int v) {
            return within(v, 0, count - 1);
        }

        int add(int sheet, int ink) {
            if (count == sheetOf.length) {
                return FULL;
            }
            sheetOf[count] = sheet;
            inkOf[count] = ink;
            return count++;
        }

        int tellMark(int line, int hole, int over) {
            int at = 0;
            while (at < marks && !(markLine[at] == line && markHole[at] == hole)) {
                at++;
            }
            if (at == markLine.length) {
                return FULL;
            }
            markLine[at] = line;
            markHole[at] = hole;
            markOver[at] = over;
            marks = Math.max(marks, at + 1);
            return marks;
        }

        int marksThatAre(int over) {
            int n = 0;
            for (int k = 0; k < marks; k++) {
                n += asBit(markOver[k] == over);
            }
            return n;
        }

        void findInks(int[] wormOf, int worms) {
            Arrays.fill(inksOver, 0);
            Arrays.fill(inksRound, 0);
            Arrays.fill(inksAhead, 0);
            for (int k = 0; k < marks; k++) {
                int worm = wormOf[markHole[k]];
                int bit = 1 << inkOf[markLine[k]];
                if (markOver[k] == 1) {
                    inksOver[worm] |= bit;
                } else {
                    inksRound[worm] |= bit;
                }
            }
            for (int worm = 0; worm < worms; worm++) {
                for (int ink = 0; ink < INKS; ink++) {
                    if (hasBit(inksRound[worm], ink)) {
                        inksAhead[ink] |= inksOver[worm] & ~(1 << ink);
                    }
                }
            }
        }

        boolean cameAhead(int one, int other) {
            return hasBit(inksAhead[other], one);
        }

        int firstInk() {
            for (int ink = 0; ink < INKS; ink++) {
                if (inksAhead[ink] == 0 && someLineHas(ink)) {
                    return ink;
                }
            }
            return NOT;
        }

        private boolean someLineHas(int ink) {
            for (int k = 0; k < count; k++) {
                if (inkOf[k] == ink) {
                    return true;
                }
            }
            return false;
        }

        int leastRing() {
            for (int one = 0; one < INKS; one++) {
                for (int other = one + 1; other < INKS; other++) {
                    if (cameAhead(one, other) && cameAhead(other, one)) {
                        return 10 * one + other;
                    }
                }
            }
            return NOT;
        }

        /** The first line in a fight, or -1. */
        int firstFighting(int[] wormOf) {
            for (int line = 0; line < count; line++) {
                if (foughtWorm(line, wormOf) >= 0) {
                    return line;
                }
            }
            return -1;
        }

        /** The least worm over which a line is, while its ink is round it; or -1. */
        int foughtWorm(int line, int[] wormOf) {
            int least = -1;
            for (int k = 0; k < marks; k++) {
                if (markLine[k] == line && markOver[k] == 1) {
                    int worm = wormOf[markHole[k]];
                    if (hasBit(inksRound[worm], inkOf[line]) && (least < 0 || worm < least)) {
                        least = worm;
                    }
                }
            }
            return least;
        }
    }

    /** Dots, and the year and bound by which their stuff bars years of drawing. */
    private static final class Dots {
        private final int[] houses = new int[40];
        private final int[] inks = new int[40];
        final int[] stuffs = new int[40];
        int count;
        int madeIn = UNKNOWN_YEAR;
        int bound = MOST_STUFF;
        private final int[] shuffled = new int[40];
        private final int[] inksOfShuffled = new int[40];

        boolean isOne(int v) {
            return within(v, 0, count - 1);
        }

        boolean isFull() {
            return count == stuffs.length;
        }

        int add(int house, int ink, int stuff) {
            if (isFull()) {
                return FULL;
            }
            houses[count] = house;
            inks[count] = ink;
            stuffs[count] = stuff;
            return count++;
        }

        void dropLast() {
            count = Math.max(count - 1, 0);
        }

        /** The mean over houses and inks that are given as bits; NOT without dots. */
        int meanOf(int someHouses, int someInks) {
            int sum = 0;
            int n = 0;
            for (int k = 0; k < count; k++) {
                if (hasBit(someHouses, houses[k]) && hasBit(someInks, inks[k])) {
                    sum += stuffs[k];
                    n++;
                }
            }
            return n == 0 ? NOT : sum / n;
        }

        int howMany(int ink) {
            int n = 0;
            for (int k = 0; k < count; k++) {
                n += asBit(inks[k] == ink);
            }
            return n;
        }

        int oddOnes(int ink) {
            int most = -1;
            for (int k = 0; k < count; k++) {
                if (inks[k] == OLD_BOOK) {
                    most = Math.max(most, stuffs[k]);
                }
            }
            int n = 0;
            for (int k = 0; k < count; k++) {
                n += asBit(inks[k] == ink && stuffs[k] > most);
            }
            return n;
        }

        int byChance(int ink, int seed, int n) {
            int size = gather(ink);
            int sum = sumOf(ink, size);
            int z = seed;
            int often = 0;
            for (int k = 0; k < n; k++) {
                z = shuffle(size, z);
                often += asBit(sumOf(ink, size) >= sum);
            }
            return often;
        }

        /** Lays out the stuffs of an ink and of the old book; answers how many there are. */
        private int gather(int ink) {
            int size = 0;
            for (int k = 0; k < count; k++) {
                if (inks[k] == ink || inks[k] == OLD_BOOK) {
                    shuffled[size] = stuffs[k];
                    inksOfShuffled[size] = inks[k];
                    size++;
                }
            }
            return size;
        }

        private int sumOf(int ink, int size) {
            int sum = 0;
            for (int k = 0; k < size; k++) {
                sum += inksOfShuffled[k] == ink ? shuffled[k] : 0;
            }
            return sum;
        }

        private int shuffle(int size, int seed) {
            int z = seed;
            for (int k = size - 1; k >= 1; k--) {
                z = drawn(z);
                int j = (z >>> 8) % (k + 1);
                int swapped = shuffled[k];
                shuffled[k] = shuffled[j];
                shuffled[j] = swapped;
            }
            return z;
        }

        boolean inkBars(int ink, int year) {
            return madeIn != UNKNOWN_YEAR && year < madeIn && meanOf(ALL_HOUSES, 1 << ink) > bound;
        }

        boolean someInkBars(int year) {
            for (int ink = 0; ink < INKS; ink++) {
                if (inkBars(ink, year)) {
                    return true;
                }
            }
            return false;
        }
    }

    /** Places: since when they are known, where they truly are, and where they are drawn. */
    private static final class Places {
        private final int[] known = new int[20];
        private final int[] truly = new int[20];
        private final int[] drawnAt = new int[20];
        int count;

        int add(int year, int at, int drawnThere) {
            if (count == known.length) {
                return FULL;
            }
            known[count] = year;
            truly[count] = at;
            drawnAt[count] = drawnThere;
            return count++;
        }

        int lateOnes(int year) {
            int n = 0;
            for (int k = 0; k < count; k++) {
                n += asBit(known[k] > year);
            }
            return n;
        }

        int lateOff(int year) {
            int sum = 0;
            for (int k = 0; k < count; k++) {
                if (known[k] > year) {
                    sum += offBy(k, drawnAt[k] / 100, drawnAt[k] % 100);
                }
            }
            return sum;
        }

        private int offBy(int place, int x, int y) {
            return Math.abs(truly[place] / 100 - x) + Math.abs(truly[place] % 100 - y);
        }

        int guessedAsWell(int year, int seed, int n) {
            int off = lateOff(year);
            int z = seed;
            int often = 0;
            for (int k = 0; k < n; k++) {
                int sum = 0;
                for (int p = 0; p < count; p++) {
                    if (known[p] > year) {
                        int zx = drawn(z);
                        z = drawn(zx);
                        sum += offBy(p, (zx >>> 8) % 100, (z >>> 8) % 100);
                    }
                }
                often += asBit(sum <= off);
            }
            return often;
        }
    }

    /** Maps with the slips that they bear, and who was copied from whom. */
    private static final class Maps {
        private final int[] years = new int[8];
        private final int[] slips = new int[8];
        int count;

        boolean isMap(int v) {
            return within(v, 0, count - 1);
        }

        int add(int year, int bits) {
            if (count == years.length) {
                return FULL;
            }
            years[count] = year;
            slips[count] = bits;
            return count++;
        }

        int apart(int one, int other) {
            return Integer.bitCount(slips[one] ^ slips[other]);
        }

        /** The father's number, or -1. */
        int fatherOf(int map) {
            int father = -1;
            for (int k = 0; k < count; k++) {
                if (years[k] < years[map] && (father < 0 || isNearer(map, k, father))) {
                    father = k;
                }
            }
            return father;
        }

        private boolean isNearer(int map, int one, int other) {
            int oneApart = apart(map, one);
            int otherApart = apart(map, other);
            return oneApart < otherApart || oneApart == otherApart && years[one] > years[other];
        }

        boolean leadsTo(int one, int other) {
            int at = fatherOf(one);
            // a father is of an earlier year, so the way up has fewer steps than there are maps
            for (int k = 0; k < count && at >= 0; k++) {
                if (at == other) {
                    return true;
                }
                at = fatherOf(at);
            }
            return false;
        }

        int tree() {
            int sum = 0;
            for (int k = 0; k < count; k++) {
                int father = fatherOf(k);
                sum += father < 0 ? 0 : apart(k, father);
            }
            return sum;
        }

        int sharedSlips(int one, int other) {
            int bits = slips[one] & slips[other];
            for (int k = 0; k < count; k++) {
                if (k != one && k != other) {
                    bits &= ~slips[k];
                }
            }
            return bits;
        }
    }

    /**
     * The tape, and the reading of its text into steps, operands ahead of the signs that work on them.
     * A step is a number from 0 on, a name (-1 less its place in NAMES), or a sign (below -8: less than 0 by its code).
     */
    private static final class Tape {
        static final String NAMES = "orsblyfa";
        /** The step that turns a number about; its sign is also that of taking away. */
        static final int TURN = '~';
        /** The document tells no limit; 512 calls can't bring more than this. */
        private static final int MOST_BYTES = 2048;
        private static final int MOST_OPEN = 6;
        private static final int MOST_DIGITS = 4;
        private static final int COMPARING = 2, LAST_LEVEL = 4;

        private byte[] bytes = new byte[64];
        int count;
        int at;
        int[] steps = new int[0];
        int size;

        int take(int n, int v) {
            if (count + n > MOST_BYTES) {
                return FULL;
            }
            if (count + n > bytes.length) {
                bytes = Arrays.copyOf(bytes, 2 * bytes.length);
            }
            for (int k = 0; k < n; k++) {
                bytes[count] = (byte) (v >> 8 * k);
                count++;
            }
            return count;
        }

        /** Whether all of the tape is a text; if not, at is the fault. */
        boolean read() {
            at = 0;
            size = 0;
            // a step for each byte at most, and one for the end of the last line
            steps = new int[count + 1];
            for (int k = 0; k <= count; k++) {
                if (!readLine()) {
                    return false;
                }
                if (at == count) {
                    return true;
                }
                if (!takes(';')) {
                    return false;
                }
            }
            return false;
        }

        private boolean readLine() {
            if (!readLevel(0, 0)) {
                return false;
            }
            if (takes('?')) {
                step(-'?');
                if (!readLevel(0, 0)) {
                    return false;
                }
            }
            step(-';');
            return true;
        }

        /** Levels are those of E, A, B, S and P, from 0 to the last; open is how many of ( ! - are. */
        private boolean readLevel(int level, int open) {
            if (level > LAST_LEVEL) {
                return readOperand(open);
            }
            if (!readLevel(level + 1, open)) {
                return false;
            }
            int most = level == COMPARING ? 1 : count;
            for (int k = 0; k < most; k++) {
                int sign = sign();
                if (levelOf(sign) != level) {
                    return true;
                }
                at++;
                if (!readLevel(level + 1, open)) {
                    return false;
                }
                step(-sign);
            }
            return true;
        }

        private boolean readOperand(int open) {
            int sign = sign();
            if (isDigit(sign)) {
                return readNumber();
            }
            int name = sign < 0 ? -1 : NAMES.indexOf((char) sign);
            if (name >= 0) {
                at++;
                step(-1 - name);
                return true;
            }
            if (open >= MOST_OPEN || sign != '(' && sign != '!' && sign != '-') {
                return false;
            }
            at++;
            if (sign == '(') {
                return readLevel(0, open + 1) && takes(')');
            }
            if (!readOperand(open + 1)) {
                return false;
            }
            step(sign == '!' ? -'!' : -TURN);
            return true;
        }

        /** A digit too many stays unread: nothing goes on with it. */
        private boolean readNumber() {
            int number = 0;
            for (int k = 0; k < MOST_DIGITS && isDigit(sign()); k++) {
                number = number * 10 + sign() - '0';
                at++;
            }
            step(number);
            return true;
        }

        private static int levelOf(int sign) {
            switch (sign) {
                case '|': return 0;
                case '&': return 1;
                case '<':
                case '=':
                case '>': return COMPARING;
                case '+':
                case '-': return 3;
                case '*':
                case '/':
                case '%': return LAST_LEVEL;
                default: return -1;
            }
        }

        private static boolean isDigit(int sign) {
            return '0' <= sign && sign <= '9';
        }

        /** The byte that comes next; -1 at the end. */
        private int sign() {
            return at < count ? bytes[at] & 255 : -1;
        }

        private boolean takes(int sign) {
            if (sign() != sign) {
                return false;
            }
            at++;
            return true;
        }

        private void step(int v) {
            if (size < steps.length) {
                steps[size] = v;
                size++;
            }
        }
    }

    /** Stories, as steps that the tape read, and their weights as they were worked out last. */
    private static final class Stories {
        private static final int MOST_WEIGHT = 9999;

        final int[] years = new int[6];
        final int[] priors = new int[6];
        final int[] weights = new int[6];
        private final int[][] steps = new int[6][0];
        private final int[] sizes = new int[6];
        int count;
        /** Five levels wait in each of seven openings at most. */
        private final int[] stack = new int[40];

        boolean isStory(int v) {
            return within(v, 0, count - 1);
        }

        boolean isFull() {
            return count == years.length;
        }

        int add(int year, int prior, int[] itsSteps, int size) {
            if (isFull() || size > itsSteps.length) {
                return FULL;
            }
            years[count] = year;
            priors[count] = prior;
            steps[count] = itsSteps;
            sizes[count] = size;
            return count++;
        }

        void weigh(int story, int[] names) {
            weights[story] = Math.max(0, Math.min(valueOf(steps[story], sizes[story], names), MOST_WEIGHT));
        }

        private int valueOf(int[] text, int size, int[] names) {
            int top = 0;
            boolean skips = false;
            for (int k = 0; k < size; k++) {
                int step = text[k];
                if (skips) {
                    skips = step != -';';
                } else if (step == -';') {
                    return stack[0];
                } else if (step == -'?') {
                    skips = stack[0] == 0;
                    top = 0;
                } else if (step >= -names.length) {
                    if (top == stack.length) {
                        return 0;
                    }
                    stack[top] = step >= 0 ? step : names[-1 - step];
                    top++;
                } else {
                    top = work(-step, top);
                }
            }
            return 0;
        }

        /** Does what a sign says with what is on top of the stack; answers how high the stack is then. */
        private int work(int sign, int top) {
            if (top >= 1 && sign == '!') {
                stack[top - 1] = asBit(stack[top - 1] == 0);
                return top;
            }
            if (top >= 1 && sign == Tape.TURN) {
                stack[top - 1] = -stack[top - 1];
                return top;
            }
            if (top >= 2) {
                stack[top - 2] = joined(sign, stack[top - 2], stack[top - 1]);
                return top - 1;
            }
            return top;
        }

        private static int joined(int sign, int a, int b) {
            switch (sign) {
                case '|': return asBit(a != 0 || b != 0);
                case '&': return asBit(a != 0 && b != 0);
                case '<': return asBit(a < b);
                case '=': return asBit(a == b);
                case '>': return asBit(a > b);
                case '+': return a + b;
                case '-': return a - b;
                case '*': return a * b;
                case '/': return b == 0 ? 0 : a / b;
                case '%': return b == 0 ? 0 : a % b;
                default: return 0;
            }
        }

        /** In thousandths, by the weights that were worked out last; NOT if all together are 0. */
        int oddsOf(int story) {
            int sum = 0;
            for (int k = 0; k < count; k++) {
                sum += priors[k] * weights[k];
            }
            return sum == 0 ? NOT : priors[story] * weights[story] * 1000 / sum;
        }

        int bestOne() {
            int best = 0;
            for (int k = 1; k < count; k++) {
                if (priors[k] * weights[k] > priors[best] * weights[best]) {
                    best = k;
                }
            }
            return best;
        }
    }

    /** Changes that may be undone, and behind them those that may be done again. */
    private static final class Changes {
        static final int STUFF = 0, PRIOR = 1, AGE = 2;

        final int[] sorts = new int[40];
        final int[] which = new int[40];
        final int[] was = new int[40];
        final int[] became = new int[40];
        int done;
        int kept;

        void add(int sort, int number, int before, int after) {
            if (done == sorts.length) {
                dropOldest();
            }
            sorts[done] = sort;
            which[done] = number;
            was[done] = before;
            became[done] = after;
            done++;
            kept = done;
        }

        private void dropOldest() {
            done--;
            System.arraycopy(sorts, 1, sorts, 0, done);
            System.arraycopy(which, 1, which, 0, done);
            System.arraycopy(was, 1, was, 0, done);
            System.arraycopy(became, 1, became, 0, done);
        }

        /** The place of the change that is to be undone. */
        int stepBack() {
            done = Math.max(done - 1, 0);
            return done;
        }

        /** The place of the change that is to be done again. */
        int stepOn() {
            int at = Math.min(done, sorts.length - 1);
            done = at + 1;
            return at;
        }
    }

    /** Bodies that are kept, and the latest act of one of them. */
    private static final class Bodies {
        static final int KINDS = 8;
        private static final int ACTS = 4;
        private static final int LIES = 0, NEEDS = 1, SHOWS = 2, TELLS = 3;
        private static final int MOST_DEEP = 24;
        /** The kind above each kind. */
        private static final int[] ABOVE = {-1, 0, 0, 1, 2, 0, 0, 6};
        /** A row for each kind: its own bodies of the four acts, 0 where it has none. */
        private static final int[] OWN = {
            1, 10, 11, 2,
            20, 0, 0, 0,
            0, 30, 0, 0,
            0, 0, 40, 0,
            0, 51, 0, 50,
            0, 0, 60, 0,
            70, 0, 0, 0,
            0, 80, 0, 81,
        };

        final int[] kinds = new int[50];
        int count;
        final int[] trace = new int[24];
        int ran;
        private int actor;

        boolean isBody(int v) {
            return within(v, 0, count - 1);
        }

        int add(int kind) {
            if (count == kinds.length) {
                return FULL;
            }
            kinds[count] = kind;
            return count++;
        }

        /** How many of those that ran are kept. */
        int traced() {
            return Math.min(ran, trace.length);
        }

        boolean isUnder(int kind, int other) {
            int at = kind;
            for (int k = 0; k < KINDS && at >= 0; k++) {
                if (at == other) {
                    return true;
                }
                at = ABOVE[at];
            }
            return false;
        }

        int start(int body, int act, int x) {
            ran = 0;
            if (!isBody(body) || !within(act, 0, ACTS - 1)) {
                return 0;
            }
            actor = body;
            return own(act, x, 0);
        }

        /** The act as the actor's own kind has it. */
        private int own(int act, int x, int depth) {
            return from(kinds[actor], act, x, depth);
        }

        /** The act as a kind has it, or the next one above that does. */
        private int from(int kind, int act, int x, int depth) {
            int at = kind;
            for (int k = 0; k < KINDS && at >= 0 && OWN[ACTS * at + act] == 0; k++) {
                at = ABOVE[at];
            }
            if (at < 0 || depth > MOST_DEEP) {
                return 0;
            }
            int body = OWN[ACTS * at + act];
            if (ran < trace.length) {
                trace[ran] = body;
            }
            ran++;
            return run(body, ABOVE[at], x, depth + 1);
        }

        private int run(int body, int above, int x, int depth) {
            switch (body) {
                case 1: return x + actor;
                case 2: return own(NEEDS, x, depth) - own(SHOWS, 1, depth);
                case 10: return own(LIES, x, depth) * 2;
                case 11: return x ^ actor;
                case 20: return from(above, LIES, x, depth) + 3;
                case 30: return -from(above, NEEDS, x, depth);
                case 40: return from(above, SHOWS, x, depth) * 3;
                case 50: return from(above, TELLS, x, depth) ^ 5;
                case 51: return from(above, NEEDS, x + 1, depth);
                case 60: return from(above, SHOWS, x, depth) - own(LIES, 2, depth);
                case 70: return from(above, LIES, x, depth) * 2;
                case 80: return from(above, NEEDS, x, depth) + own(SHOWS, 2, depth);
                case 81: return from(above, TELLS, x, depth) - 1;
                default: return 0;
            }
        }
    }

    /** Shelves, each with its own places, so that rows come and go without new ones. */
    private static final class Shelves {
        static final int MOST_PLACES = 60;
        static final int BYTES = 0, SHORTS = 1, INTS = 2, BOOLEANS = 4, BODY = 5;
        private static final int NOTHING = -1;

        private final int[] sorts = {NOTHING, NOTHING, NOTHING, NOTHING, NOTHING, NOTHING};
        private final int[] lengths = new int[6];
        final int[] bodyKinds = new int[6];
        final long[][] values = new long[6][MOST_PLACES];

        boolean isShelf(int v) {
            return within(v, 0, sorts.length - 1);
        }

        boolean isBare(int shelf) {
            return sorts[shelf] == NOTHING;
        }

        boolean holdsSort(int shelf, int sort) {
            return sorts[shelf] == sort;
        }

        boolean areAlikeRows(int shelf, int other) {
            return sorts[shelf] != BODY && sorts[shelf] == sorts[other];
        }

        /** Whether a row has n places from one on; without n, one just behind the last will do. */
        boolean hasPlaces(int shelf, int from, int n) {
            return from >= 0 && n >= 0 && from <= lengths[shelf] && n <= lengths[shelf] - from;
        }

        void clear(int shelf) {
            sorts[shelf] = NOTHING;
        }

        void layBody(int shelf, int kind) {
            sorts[shelf] = BODY;
            bodyKinds[shelf] = kind;
        }

        void layRow(int shelf, int sort, int n) {
            sorts[shelf] = sort;
            lengths[shelf] = n;
            Arrays.fill(values[shelf], 0L);
        }

        /** Why a place of a row can't be used; 0 if it can. */
        int refusal(int shelf, int i) {
            if (!isShelf(shelf)) {
                return BAD;
            }
            if (isBare(shelf)) {
                return NOTHING_THERE;
            }
            if (sorts[shelf] == BODY) {
                return OTHER_KIND;
            }
            return within(i, 0, lengths[shelf] - 1) ? 0 : NO_PLACE;
        }

        long lowBits(int shelf, long v) {
            switch (sorts[shelf]) {
                case BYTES: return (byte) v;
                case SHORTS: return (short) v;
                case INTS: return (int) v;
                case BOOLEANS: return v == 0 ? 0 : 1;
                default: return v;
            }
        }
    }
}
