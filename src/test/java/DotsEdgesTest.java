/** Boundary cases of promises 14 to 22, each with the words of the document that name it. */
public final class DotsEdgesTest {
    private static final Checks c = new Checks("DotsEdgesTest");
    private static final int BAD = OlderSkin.BAD, NOT = OlderSkin.NOT, FULL = OlderSkin.FULL, VOID = OlderSkin.VOID;

    public static void main(String[] args) {
        dotsAsTheyCome();
        housesAndInks();
        stuffsMended();
        rowsAndNumbers();
        rowsMissing();
        rowsThatEnd();
        dotsThatAreNotSo();
        dotsUntilFull();
        meansCut();
        oddByMore();
        chanceRefused();
        asGreatOrGreater();
        shufflesGoOn();
        chosenByNone();
        madeInAYear();
        barredBeforeIt();
        allFortyCount();
        c.end();
    }

    /** Dots as pairs of a house with an ink, and a stuff. */
    private static OlderSkin withDots(int... dots) {
        OlderSkin x = new OlderSkin();
        for (int k = 0; k < dots.length; k += 2) {
            x.dot(dots[k], dots[k + 1]);
        }
        return x;
    }

    private static OlderSkin withRow(int sort, int... values) {
        OlderSkin x = new OlderSkin();
        x.row(3, sort, values.length);
        for (int k = 0; k < values.length; k++) {
            x.put(3, k, values[k]);
        }
        return x;
    }

    private static void dotsAsTheyCome() {
        c.says("14: DOTS 0 .. 39, as they come");
        OlderSkin x = new OlderSkin();
        for (int k = 0; k <= 39; k++) {
            c.due("dot", x.dot(0, 0), k);
        }
        c.due("a fortieth number is not there", x.dot(0, 0), FULL);
        c.due("count(4)", x.count(4), 40);
        c.due("BAD is named ahead of FULL: house and ink", x.dot(8, 0), BAD);
        c.due("BAD is named ahead of FULL: stuff", x.dot(0, 10000), BAD);
        c.says("14: so much STUFF (0 .. 9999)");
        c.range("dot(0, stuff)", 0, 9999, BAD, v -> new OlderSkin().dot(0, v));
    }

    private static void housesAndInks() {
        c.says("14: hi: 10 times the HOUSE (0 .. 4), and the INK (0 .. 7)");
        for (int hi = -110; hi <= 110; hi++) {
            boolean so = hi >= 0 && hi / 10 <= 4 && hi % 10 <= 7;
            OlderSkin x = new OlderSkin();
            c.due("dot(" + hi + ", 5)", x.dot(hi, 5), so ? 0 : BAD);
            c.due("what came of it", x.count(4), so ? 1 : 0);
            c.due("it is there", x.mean(hi), so ? 5 : hi >= 50 && hi <= 57 ? NOT : BAD);
        }
        c.due("the greatest int", new OlderSkin().dot(Integer.MAX_VALUE, 0), BAD);
        c.due("the least int", new OlderSkin().dot(Integer.MIN_VALUE, 0), BAD);
    }

    private static void stuffsMended() {
        c.says("15: STUFF of a DOT becomes v: what it was. BAD.");
        c.due("without dots", new OlderSkin().mend(0, 0), BAD);
        c.range("mend(dot, 5) of three", 0, 2, BAD, v -> withDots(0, 1, 0, 2, 0, 3).mend(v, 5));
        c.range("mend(0, v)", 0, 9999, BAD, v -> withDots(0, 1).mend(0, v));
        OlderSkin full = new OlderSkin();
        for (int k = 0; k < 40; k++) {
            full.dot(0, k);
        }
        c.due("the last of forty", full.mend(39, 0), 39);
        c.due("none behind it", full.mend(40, 0), BAD);
        OlderSkin x = withDots(3, 40);
        c.due("refused", x.mend(0, 10000), BAD);
        c.due("it stays", x.mean(3), 40);
        c.due("mended", x.mend(0, 9999), 40);
        c.due("mended again", x.mend(0, 0), 9999);
        c.due("its ink and house stay", x.mean(3), 0);
    }

    private static void rowsAndNumbers() {
        c.says("16: on a SHELF (0 .. 5), n (1 .. 20) of them. BAD");
        c.range("dots(shelf, 0, 1)", 0, 5, BAD, v -> new OlderSkin().dots(v, 0, 1));
        c.range("dots(0, 0, n) of a bare shelf", 1, 20, BAD, v -> new OlderSkin().dots(0, 0, v));
        c.range("dots(3, 0, n) of a row", 1, 20, BAD, v -> withRow(1, 0, 0, 0).dots(3, 0, v));
        OlderSkin x = withRow(1, new int[60]);
        c.due("one of twenty", x.dots(3, 0, 1), 1);
        c.due("twenty of twenty", x.dots(3, 0, 20), 20);
        c.due("count(4)", x.count(4), 21);
    }

    private static void rowsMissing() {
        c.says("16: -12 (no ROW of shorts; a SHELF that holds nothing is missing)");
        for (int sort = 0; sort <= 4; sort++) {
            c.due("a row of sort " + sort, withRow(sort, 0, 0, 1).dots(3, 0, 1), sort == 1 ? 1 : -12);
            c.due("an empty row of sort " + sort, withRow(sort).dots(3, 0, 1), sort == 1 ? 0 : -12);
            c.due("far behind a row of sort " + sort, withRow(sort).dots(3, 99, 1), sort == 1 ? 0 : -12);
        }
        OlderSkin x = new OlderSkin();
        c.due("holds nothing", x.dots(3, 0, 20), 0);
        x.body(0);
        x.keep(3, 0);
        c.due("holds a body", x.dots(3, 0, 1), -12);
        c.due("BAD is named ahead of -12", x.dots(3, 0, 21), BAD);
        x.keep(3, -1);
        c.due("holds nothing again", x.dots(3, 0, 1), 0);
        c.due("none came", x.count(4), 0);
    }

    private static void rowsThatEnd() {
        c.says("16: it ends where the row ends (within a three, too): those ahead came");
        for (int size = 0; size <= 9; size++) {
            for (int from = -4; from <= 10; from++) {
                int due = from < 0 ? 0 : Math.max(0, size - from) / 3;
                OlderSkin x = withRow(1, new int[size]);
                c.due("a row of " + size + " from " + from, x.dots(3, from, 20), due);
                c.due("what came", x.count(4), due);
            }
        }
        OlderSkin x = withRow(1, new int[60]);
        c.due("the last three", x.dots(3, 57, 20), 1);
        c.due("within the last three", x.dots(3, 58, 20), 0);
        c.due("from the greatest int", x.dots(3, Integer.MAX_VALUE, 20), 0);
        c.due("three less than it", x.dots(3, Integer.MAX_VALUE - 2, 20), 0);
        c.due("from the least int", x.dots(3, Integer.MIN_VALUE, 20), 0);
        c.due("one came in all", x.count(4), 1);
    }

    private static void dotsThatAreNotSo() {
        c.says("16: it ends where one is not so: those ahead came");
        int[][] wrong = {{5, 0, 0}, {-1, 0, 0}, {0, 8, 0}, {0, -1, 0}, {0, 0, 10000}, {0, 0, -1}, {32767, 0, 0},
            {-32768, 0, 0}, {0, 32767, 0}, {0, 0, 32767}, {0, 0, -32768}, {10, 10, 10}};
        for (int[] w : wrong) {
            OlderSkin x = withRow(1, 4, 7, 9999, w[0], w[1], w[2], 1, 1, 1);
            String told = w[0] + ", " + w[1] + ", " + w[2];
            c.due("the one ahead of " + told, x.dots(3, 0, 3), 1);
            c.due("its mean", x.mean(47), 9999);
            c.due("none behind it", x.mean(11), NOT);
            c.due("from it on", x.dots(3, 3, 3), 0);
            c.due("from behind it on", x.dots(3, 6, 3), 1);
        }
        OlderSkin last = withRow(1, 4, 7, 9999, 0, 0, 0, 4, 0, 0, 0, 7, 0);
        c.due("all of these are so", last.dots(3, 0, 4), 4);
        OlderSkin cut = withRow(1, 65536, 65543, 75535);
        c.due("a row keeps the lowest bits", cut.dots(3, 0, 1), 1);
        c.due("house 0, ink 7, 9999", cut.mean(7), 9999);
    }

    private static void dotsUntilFull() {
        c.says("16: or DOTS are FULL: those ahead came");
        for (int ahead = 18; ahead <= 40; ahead++) {
            OlderSkin x = withRow(1, new int[60]);
            for (int k = 0; k < ahead; k++) {
                x.dot(1, 1);
            }
            c.due("with " + ahead + " ahead", x.dots(3, 0, 20), Math.min(20, 40 - ahead));
            c.due("count(4)", x.count(4), Math.min(40, ahead + 20));
        }
        OlderSkin full = withRow(1, new int[60]);
        full.dots(3, 0, 20);
        full.dots(3, 0, 20);
        c.due("full: none came", full.dots(3, 0, 1), 0);
        c.due("full: BAD still", full.dots(3, 0, 0), BAD);
        full.row(3, 2, 3);
        c.due("full: -12 still", full.dots(3, 0, 1), -12);
    }

    private static void meansCut() {
        c.says("17: MEAN (hi: 10 times the HOUSE or 5, and the INK). BAD; NOT: none");
        OlderSkin none = new OlderSkin();
        for (int hi = -110; hi <= 110; hi++) {
            boolean so = hi >= 0 && hi / 10 <= 5 && hi % 10 <= 7;
            c.due("mean(" + hi + ")", none.mean(hi), so ? NOT : BAD);
        }
        c.due("the greatest int", none.mean(Integer.MAX_VALUE), BAD);
        c.due("the least int", none.mean(Integer.MIN_VALUE), BAD);
        c.says("17: MEAN of DOTS of a HOUSE (5: all) in an INK: cut");
        OlderSkin x = withDots(0, 0, 0, 1, 10, 9999, 41, 7);
        c.due("a half is cut", x.mean(0), 0);
        c.due("of all", x.mean(50), 3333);
        c.due("of one", x.mean(41), 7);
        c.due("a house without", x.mean(1), NOT);
        c.due("an ink without", x.mean(57), NOT);
        OlderSkin most = new OlderSkin();
        for (int k = 0; k < 40; k++) {
            most.dot(10 * (k % 5) + 7, 9999);
        }
        c.due("the greatest sum", most.mean(57), 9999);
        c.due("a mean of 0 is no NOT", withDots(0, 0).mean(0), 0);
    }

    private static void oddByMore() {
        c.says("18: ODD in an INK (0 .. 6). BAD.");
        c.range("odd(ink)", 0, 6, BAD, v -> withDots(0, 1, 7, 0).odd(v));
        c.says("18: of DOTS in an INK how many have more STUFF than each DOT of INK 7");
        OlderSkin x = withDots(6, 0, 6, 9999, 6, 5);
        c.due("no dot of ink 7: all have more", x.odd(6), 3);
        c.due("no dots in it", x.odd(5), 0);
        x.dot(7, 0);
        c.due("as much as is not more", x.odd(6), 2);
        x.dot(47, 9998);
        c.due("one more is", x.odd(6), 1);
        x.dot(7, 9999);
        c.due("none has", x.odd(6), 0);
        x.dot(7, 3);
        c.due("a lesser one behind helps not", x.odd(6), 0);
        c.due("dot 0 of ink 7 counts", withDots(7, 5, 6, 5, 6, 6).odd(6), 1);
        c.due("the last dot of ink 7 counts", withDots(6, 5, 6, 6, 7, 5).odd(6), 1);
        c.due("dot 0 in it counts", withDots(6, 6, 7, 5).odd(6), 1);
    }

    private static void chanceRefused() {
        c.says("19: n shuffles (1 .. 50); an INK (0 .. 6). BAD");
        OlderSkin all = withDots(0, 1, 1, 1, 2, 1, 3, 1, 4, 1, 5, 1, 6, 1, 7, 1);
        c.range("chance(ink, 0, 1)", 0, 6, BAD, v -> all.chance(v, 0, 1));
        c.range("chance(0, 0, n)", 1, 50, BAD, v -> all.chance(0, 0, v));
        int[] seeds = {Integer.MIN_VALUE, -1, 0, 1, Integer.MAX_VALUE};
        for (int seed : seeds) {
            c.due("any seed is taken: " + seed, all.chance(0, seed, 50), 50);
        }
        c.says("19: NOT: no DOTS in it, or of INK 7");
        c.due("none at all", new OlderSkin().chance(0, 0, 1), NOT);
        c.due("none of ink 7", withDots(0, 1).chance(0, 0, 1), NOT);
        c.due("none in it", withDots(7, 1).chance(0, 0, 1), NOT);
        c.due("of other inks, but none of ink 7", withDots(0, 1, 1, 1).chance(0, 0, 1), NOT);
        c.due("of other inks, but none in it", withDots(1, 1, 7, 1).chance(0, 0, 1), NOT);
        c.due("of bare skin alone", withDots(6, 1).chance(6, 0, 1), NOT);
        c.due("BAD is named ahead of NOT: n", new OlderSkin().chance(0, 0, 51), BAD);
        c.due("BAD is named ahead of NOT: ink", new OlderSkin().chance(7, 0, 1), BAD);
    }

    private static void asGreatOrGreater() {
        c.says("19: how often it is as great or greater");
        c.due("always as great", withDots(0, 5, 7, 5).chance(0, 3, 50), 50);
        c.due("always as great, 0", withDots(0, 0, 7, 0).chance(0, 3, 50), 50);
        OlderSkin low = withDots(0, 0, 7, 1);
        c.due("the least is always as great", low.chance(0, 3, 50), 50);
        OlderSkin high = withDots(0, 1, 7, 0);
        int z = 3;
        boolean turned = false;
        int often = 0;
        for (int k = 0; k < 50; k++) {
            z = z * 1103515245 + 12345;
            turned ^= (z >>> 8) % 2 == 0;
            often += turned ? 0 : 1;
            c.due("two dots, n " + (k + 1), high.chance(0, 3, k + 1), often);
        }
        c.due("it is not always so", often > 0 && often < 50);
    }

    /** As the document says it: from the last one down to the second, each from the one ahead. */
    private static int said(int[] inks, int[] stuffs, int seed, int n) {
        int[] s = stuffs.clone();
        int real = sum(inks, stuffs);
        int z = seed;
        int often = 0;
        for (int k = 0; k < n; k++) {
            for (int place = s.length - 1; place >= 1; place--) {
                z = (int) (z * 1103515245L + 12345L);
                int j = (int) ((z & 0xffffffffL) >> 8) % (place + 1);
                int held = s[place];
                s[place] = s[j];
                s[j] = held;
            }
            often += sum(inks, s) >= real ? 1 : 0;
        }
        return often;
    }

    private static int sum(int[] inks, int[] stuffs) {
        int sum = 0;
        for (int k = 0; k < inks.length; k++) {
            sum += inks[k] == 2 ? stuffs[k] : 0;
        }
        return sum;
    }

    private static void shufflesGoOn() {
        c.says("19: from the last one down to the second; z wraps; each from the one ahead");
        int[] inks = {2, 7, 7, 2, 7, 2, 7};
        int[] stuffs = {9999, 0, 17, 300, 4000, 21, 8000};
        OlderSkin x = new OlderSkin();
        for (int k = 0; k < inks.length; k++) {
            x.dot(10 * (k % 5) + inks[k], stuffs[k]);
            x.dot(10 * (k % 5) + k % 2, 9999 - k);
        }
        int[] seeds = {Integer.MIN_VALUE, Integer.MIN_VALUE + 1, -1, 0, 1, 12345, Integer.MAX_VALUE};
        for (int seed : seeds) {
            for (int n = 1; n <= 50; n++) {
                c.due("seed " + seed + ", n " + n, x.chance(2, seed, n), said(inks, stuffs, seed, n));
            }
        }
        OlderSkin forty = new OlderSkin();
        int[] two = new int[40];
        int[] much = new int[40];
        for (int k = 0; k < 40; k++) {
            two[k] = k % 3 == 0 ? 2 : 7;
            much[k] = 251 * k * k % 10000;
            forty.dot(two[k], much[k]);
        }
        c.due("among forty", forty.chance(2, 8, 50), said(two, much, 8, 50));
    }

    private static void chosenByNone() {
        c.says("20: VOID: BAD, NOT");
        OlderSkin x = withDots(0, 10, 11, 20, 22, 30, 33, 40, 44, 50);
        c.range("chosen(house)", 0, 4, VOID, x::chosen);
        c.says("20: NOT: none of either");
        c.due("no dots", new OlderSkin().chosen(0), VOID);
        c.due("none of the others", withDots(0, 10).chosen(0), VOID);
        c.due("none of its own", withDots(0, 10).chosen(1), VOID);
        c.says("20: in INKS 0 .. 5");
        c.due("its dots in 6 count not", withDots(6, 10, 11, 10).chosen(0), VOID);
        c.due("its dots in 7 count not", withDots(7, 10, 11, 10).chosen(0), VOID);
        c.due("others' in 6 count not", withDots(0, 10, 16, 10).chosen(0), VOID);
        c.due("others' in 7 count not", withDots(0, 10, 17, 10).chosen(0), VOID);
        c.due("inks 0 and 5 count", withDots(0, 0, 5, 9999, 15, 0, 40, 1).chosen(0), 4999);
        c.due("each is cut by itself", withDots(0, 1, 0, 2, 10, 2, 10, 1).chosen(0), 0);
        c.due("the least", withDots(0, 0, 15, 9999).chosen(0), -9999);
        c.due("the greatest", withDots(0, 9999, 45, 0).chosen(0), 9999);
        c.due("-1 is an answer, not BAD", withDots(0, 0, 10, 1).chosen(0), -1);
    }

    private static void madeInAYear() {
        c.says("21: the YEAR (0 .. 2001) in which STUFF was first made, and the bound (0 .. 9999). BAD.");
        c.range("made(year, 0)", 0, 2001, BAD, v -> new OlderSkin().made(v, 0));
        c.range("made(0, bound)", 0, 9999, BAD, v -> new OlderSkin().made(0, v));
        c.says("21: the YEAR that was (2001: it is not known, at first)");
        OlderSkin x = withDots(0, 9999);
        c.due("at first", x.made(2000, 9998), 2001);
        c.due("refused: the year", x.made(2002, 0), BAD);
        c.due("refused: the bound", x.made(0, 10000), BAD);
        c.due("both stay", x.bars(0, 1999), 1);
        c.due("the year stays", x.made(0, 0), 2000);
        c.due("year 0 was told", x.made(2001, 0), 0);
        c.due("not known was told", x.made(5, 0), 2001);
    }

    private static void allFortyCount() {
        c.says("14 to 22: DOTS 0 .. 39");
        OlderSkin x = new OlderSkin();
        for (int k = 0; k < 38; k++) {
            x.dot(0, 10);
        }
        x.dot(17, 9);
        x.dot(45, 8000);
        c.due("forty", x.count(4), 40);
        c.due("mean in the first ink", x.mean(50), 10);
        c.due("mean in the last dot's ink", x.mean(55), 8000);
        c.due("mean of ink 7", x.mean(57), 9);
        c.due("ODD of 38", x.odd(0), 38);
        c.due("ODD of the last", x.odd(5), 1);
        c.due("CHOSEN by the last", x.chosen(4), 7990);
        c.due("CHOSEN by all others", x.chosen(0), -7990);
        x.made(1900, 7999);
        c.due("the last bars", x.bars(5, 1899), 1);
        c.due("the others don't", x.bars(0, 1899), 0);
        c.due("the last is mended", x.mend(39, 9), 8000);
        c.due("as much as ink 7", x.odd(5), 0);
        c.due("BY CHANCE of the last and ink 7", x.chance(5, 4, 50), 50);
    }

    private static void barredBeforeIt() {
        c.says("22: Whether an INK (0 .. 5) bars a YEAR of drawing (1, 0). BAD.");
        OlderSkin x = withDots(0, 50, 5, 50, 6, 50, 7, 50);
        c.range("bars(ink, 0)", 0, 5, BAD, v -> x.bars(v, 0));
        c.range("bars(0, year)", 0, 2000, BAD, v -> x.bars(0, v));
        c.says("22: 2001: it is not known, at first: it bars none");
        c.due("at first", x.bars(0, 0), 0);
        x.made(2001, 0);
        c.due("told so, bound 0, the first year", x.bars(0, 0), 0);
        c.due("told so, bound 0, the last year", x.bars(0, 2000), 0);
        c.says("22: bars each YEAR of drawing before it");
        x.made(2000, 0);
        c.due("the year before it", x.bars(0, 1999), 1);
        c.due("that year", x.bars(0, 2000), 0);
        x.made(1500, 0);
        c.due("the year before it", x.bars(0, 1499), 1);
        c.due("the first year", x.bars(0, 0), 1);
        c.due("that year", x.bars(0, 1500), 0);
        c.due("the year behind it", x.bars(0, 1501), 0);
        c.due("the last year", x.bars(0, 2000), 0);
        x.made(1, 0);
        c.due("year 0 before year 1", x.bars(0, 0), 1);
        x.made(0, 0);
        c.due("none is before year 0", x.bars(0, 0), 0);
        c.says("22: if the MEAN in that INK (all HOUSES) is above a bound (0 .. 9999)");
        x.made(2000, 49);
        c.due("one above", x.bars(5, 0), 1);
        x.made(2000, 50);
        c.due("as much is not above", x.bars(5, 0), 0);
        x.dot(45, 52);
        c.due("another house's dot counts", x.bars(5, 0), 1);
        c.due("an ink without dots", x.bars(4, 0), 0);
        x.made(2000, 0);
        c.due("an ink without dots, bound 0", x.bars(4, 0), 0);
        OlderSkin most = withDots(0, 9999);
        most.made(2000, 9999);
        c.due("none is above 9999", most.bars(0, 0), 0);
        most.made(2000, 9998);
        c.due("9999 is above 9998", most.bars(0, 0), 1);
        OlderSkin nought = withDots(0, 0);
        nought.made(2000, 0);
        c.due("0 is not above 0", nought.bars(0, 0), 0);
        OlderSkin cut = withDots(0, 50, 0, 51);
        cut.made(2000, 50);
        c.due("the mean is cut first", cut.bars(0, 0), 0);
    }
}
