/** Boundary cases of promises 23 to 29, each with the words of the document that name it. */
public final class PlacesEdgesTest {
    private static final Checks c = new Checks("PlacesEdgesTest");
    private static final int BAD = OlderSkin.BAD, NOT = OlderSkin.NOT, FULL = OlderSkin.FULL;

    public static void main(String[] args) {
        placesAsTheyCome();
        laterThanAYear();
        sizesOfDifferences();
        wellRefused();
        asLittleOrLess();
        drawsGoOn();
        mapsAsTheyCome();
        fathersEarlier();
        fathersOfLikeOnes();
        pairsThatHang();
        treesAndShares();
        slipsOfTwoAlone();
        c.end();
    }

    /** Places as threes of known, truly, drawn. */
    private static OlderSkin withPlaces(int... places) {
        OlderSkin x = new OlderSkin();
        for (int k = 0; k < places.length; k += 3) {
            x.place(places[k], places[k + 1], places[k + 2]);
        }
        return x;
    }

    /** Maps as pairs of a year and slips. */
    private static OlderSkin withMaps(int... maps) {
        OlderSkin x = new OlderSkin();
        for (int k = 0; k < maps.length; k += 2) {
            x.map(maps[k], maps[k + 1]);
        }
        return x;
    }

    private static void placesAsTheyCome() {
        c.says("23: PLACES 0 .. 19, as they come");
        OlderSkin x = new OlderSkin();
        for (int k = 0; k <= 19; k++) {
            c.due("place", x.place(2000, 0, 9999), k);
        }
        c.due("a twentieth number is not there", x.place(2000, 0, 9999), FULL);
        c.due("count(5)", x.count(5), 20);
        c.due("none counts behind them", x.late(0, 0), 20);
        c.due("the greatest sum", x.late(0, 1), 20 * 198);
        c.due("none is drawn farther off", x.well(0, 6, 50), 50);
        c.due("BAD is named ahead of FULL: known", x.place(2001, 0, 0), BAD);
        c.due("BAD is named ahead of FULL: truly", x.place(0, 10000, 0), BAD);
        c.due("BAD is named ahead of FULL: drawn", x.place(0, 0, -1), BAD);
        c.says("23: KNOWN since a YEAR (0 .. 2000)");
        c.range("place(known, 0, 0)", 0, 2000, BAD, v -> new OlderSkin().place(v, 0, 0));
        c.says("23: truly, drawn: 100 x and y (0 .. 99 each)");
        c.range("place(0, truly, 0)", 0, 9999, BAD, v -> new OlderSkin().place(0, v, 0));
        c.range("place(0, 0, drawn)", 0, 9999, BAD, v -> new OlderSkin().place(0, 0, v));
    }

    private static void laterThanAYear() {
        c.says("24: LATE by a YEAR: how many (what 0), how far off together (1). BAD.");
        OlderSkin x = withPlaces(2000, 0, 1, 0, 0, 2, 1, 0, 4);
        c.range("late(year, 0)", 0, 2000, BAD, v -> x.late(v, 0));
        c.range("late(year, 1)", 0, 2000, BAD, v -> x.late(v, 1));
        c.range("late(0, what)", 0, 1, BAD, v -> x.late(0, v));
        c.due("no places", new OlderSkin().late(0, 0), 0);
        c.due("no places, off", new OlderSkin().late(0, 1), 0);
        c.says("24: PLACES KNOWN later than it");
        c.due("by year 0: that of year 0 is not later", x.late(0, 0), 2);
        c.due("by year 0, off", x.late(0, 1), 5);
        c.due("by year 1", x.late(1, 1), 1);
        c.due("by 1999", x.late(1999, 0), 1);
        c.due("by 2000 none is later", x.late(2000, 0), 0);
        c.due("by 2000, off", x.late(2000, 1), 0);
    }

    private static void sizesOfDifferences() {
        c.says("24: how far they are drawn off (sizes of differences of x and of y)");
        c.due("from corner to corner", withPlaces(1, 0, 9999).late(0, 1), 198);
        c.due("and back", withPlaces(1, 9999, 0).late(0, 1), 198);
        c.due("the other corners", withPlaces(1, 99, 9900).late(0, 1), 198);
        c.due("x alone", withPlaces(1, 100, 200).late(0, 1), 1);
        c.due("y alone", withPlaces(1, 199, 100).late(0, 1), 99);
        c.due("a step over the edge of y", withPlaces(1, 99, 100).late(0, 1), 100);
        c.due("x less, y more", withPlaces(1, 5010, 4015).late(0, 1), 15);
        c.due("just there", withPlaces(1, 4242, 4242).late(0, 1), 0);
    }

    private static void wellRefused() {
        c.says("25: of n times (1 .. 50) by a SEED. BAD; NOT: none LATE");
        OlderSkin x = withPlaces(2000, 0, 9999);
        c.range("well(year, 0, 1)", 0, 2000, BAD, v -> x.well(v, 0, 1));
        c.range("well(0, 0, n)", 1, 50, BAD, v -> x.well(0, 0, v));
        int[] seeds = {Integer.MIN_VALUE, -1, 0, 1, Integer.MAX_VALUE};
        for (int seed : seeds) {
            c.due("any seed is taken: " + seed, x.well(0, seed, 50), 50);
        }
        c.due("no places", new OlderSkin().well(0, 0, 1), NOT);
        c.due("none later than 2000", x.well(2000, 0, 1), NOT);
        c.due("one later than 1999", x.well(1999, 0, 1), 1);
        c.due("known in that year", withPlaces(7, 0, 0).well(7, 0, 1), NOT);
        c.due("BAD is named ahead of NOT: year", new OlderSkin().well(2001, 0, 1), BAD);
        c.due("BAD is named ahead of NOT: n", new OlderSkin().well(0, 0, 51), BAD);
    }

    private static int next(int z) {
        return (int) (z * 1103515245L + 12345L);
    }

    private static int hundredth(int z) {
        return (int) ((z & 0xffffffffL) >> 8) % 100;
    }

    private static void asLittleOrLess() {
        c.says("25: are off together by as little or less");
        int zx = next(41);
        int x = hundredth(zx);
        int y = hundredth(next(zx));
        int away = x < 50 ? 1 : -1;
        int truly = 100 * (x + away) + y;
        c.due("off by 1, as little", withPlaces(1, truly, 100 * (x + 2 * away) + y).well(0, 41, 1), 1);
        c.due("drawn just there: the guess is off by more", withPlaces(1, truly, truly).well(0, 41, 1), 0);
        c.due("drawn off by 2: the guess is less", withPlaces(1, truly, 100 * (x + 3 * away) + y).well(0, 41, 1), 1);
        c.due("the guess hits", withPlaces(1, 100 * x + y, 100 * x + y).well(0, 41, 1), 1);
        c.due("x is drawn ahead of y", withPlaces(1, 100 * y + x, 100 * y + x).well(0, 41, 1), x == y ? 1 : 0);
    }

    private static void drawsGoOn() {
        c.says("25: x, y drawn at random (two draws each, (z >>> 8) % 100), of LATE ones alone");
        int[] truly = {3050, 9999, 7, 5555, 0};
        int[] drawn = {6020, 1000, 9990, 5050, 99};
        int[] known = {1500, 100, 1501, 2000, 0};
        int[] seeds = {Integer.MIN_VALUE, -77, 0, 1, Integer.MAX_VALUE};
        int[] years = {0, 99, 100, 1499, 1500, 1999};
        for (int seed : seeds) {
            for (int year : years) {
                OlderSkin x = new OlderSkin();
                for (int k = 0; k < 5; k++) {
                    x.place(known[k], truly[k], drawn[k]);
                }
                int often = 0;
                int z = seed;
                for (int n = 1; n <= 50; n++) {
                    int sum = 0;
                    for (int k = 0; k < 5; k++) {
                        if (known[k] > year) {
                            z = next(z);
                            sum += Math.abs(truly[k] / 100 - hundredth(z));
                            z = next(z);
                            sum += Math.abs(truly[k] % 100 - hundredth(z));
                        }
                    }
                    often += sum <= x.late(year, 1) ? 1 : 0;
                    c.due("well(" + year + ", " + seed + ", " + n + ")", x.well(year, seed, n), often);
                }
            }
        }
    }

    private static void mapsAsTheyCome() {
        c.says("26: MAPS 0 .. 7, as they come");
        OlderSkin x = new OlderSkin();
        for (int k = 0; k <= 7; k++) {
            c.due("map", x.map(k, k), k);
        }
        c.due("an eighth number is not there", x.map(0, 0), FULL);
        c.due("count(6)", x.count(6), 8);
        c.due("BAD is named ahead of FULL: year", x.map(2001, 0), BAD);
        c.due("BAD is named ahead of FULL: slips", x.map(0, 65536), BAD);
        c.says("26: a YEAR, SLIPS (16 bits)");
        c.range("map(year, 0)", 0, 2000, BAD, v -> new OlderSkin().map(v, 0));
        c.range("map(0, slips)", 0, 65535, BAD, v -> new OlderSkin().map(0, v));
        c.due("all 16 bits differ", withMaps(0, 0, 1, 65535).father(1, 1), 16);
    }

    private static void fathersEarlier() {
        c.says("27: FATHER of a MAP (what 0), in how many bits they differ (1). BAD; NOT.");
        c.due("no maps", new OlderSkin().father(0, 0), BAD);
        OlderSkin x = withMaps(5, 1, 6, 3, 7, 7);
        c.range("father(map, 0) of three", 0, 2, BAD, v -> x.father(v, 0));
        c.range("father(1, what)", 0, 1, BAD, v -> x.father(1, v));
        OlderSkin apart = withMaps(5, 0, 6, 1, 7, 63, 4, 65535);
        int[] fathers = {3, 0, 1, NOT};
        int[] bits = {16, 1, 5, NOT};
        for (int map = 0; map < 4; map++) {
            c.due("father(" + map + ", 0)", apart.father(map, 0), fathers[map]);
            c.due("father(" + map + ", 1)", apart.father(map, 1), bits[map]);
        }
        c.says("27: of MAPS with an earlier YEAR; NOT: none is earlier");
        c.due("the first of all", x.father(0, 0), NOT);
        c.due("the first of all, bits", x.father(0, 1), NOT);
        c.due("BAD is named ahead of NOT", x.father(0, 2), BAD);
        c.due("one year earlier is", x.father(1, 0), 0);
        OlderSkin same = withMaps(9, 0, 9, 0);
        c.due("the same year is not", same.father(0, 0), NOT);
        c.due("the same year is not", same.father(1, 0), NOT);
        OlderSkin ends = withMaps(0, 0, 2000, 0);
        c.due("from the last year to the first", ends.father(1, 0), 0);
        c.due("in no bits", ends.father(1, 1), 0);
        c.due("the only one", withMaps(2000, 0).father(0, 0), NOT);
    }

    private static void fathersOfLikeOnes() {
        c.says("27: differ in the fewest bits; of like ones the latest YEAR, then the least number");
        c.due("the fewest bits, though older", withMaps(10, 0, 20, 3, 30, 1).father(2, 0), 1);
        c.due("fewest bits win over the year", withMaps(10, 1, 20, 7, 30, 1).father(2, 0), 0);
        c.due("of like ones the latest", withMaps(10, 1, 20, 1, 15, 1, 30, 1).father(3, 0), 1);
        c.due("then the least number", withMaps(20, 1, 20, 1, 10, 1, 30, 1).father(3, 0), 0);
        c.due("like by other bits", withMaps(20, 2, 20, 4, 30, 1).father(2, 0), 0);
        c.due("a later number that is later too", withMaps(10, 2, 20, 4, 30, 0).father(2, 0), 1);
        c.due("the son may have the least number", withMaps(30, 1, 20, 0, 20, 0).father(0, 0), 1);
        c.due("the last of eight", withMaps(9, 0, 8, 0, 7, 0, 6, 0, 5, 0, 4, 0, 3, 0, 2, 0).father(6, 0), 7);
    }

    private static void pairsThatHang() {
        c.says("28: mn: 10 times the one and the other: 1, 0. BAD.");
        for (int maps = 0; maps <= 8; maps++) {
            OlderSkin x = new OlderSkin();
            for (int k = 0; k < maps; k++) {
                x.map(100 + k, 5);
            }
            for (int mn = -25; mn <= 125; mn++) {
                boolean so = mn >= 0 && mn / 10 < maps && mn % 10 < maps;
                c.due("hangs(" + mn + ") of " + maps, x.hangs(mn), !so ? BAD : mn / 10 > mn % 10 ? 1 : 0);
            }
            c.due("the greatest int", x.hangs(Integer.MAX_VALUE), BAD);
            c.due("the least int", x.hangs(Integer.MIN_VALUE), BAD);
        }
        c.says("28: whether by FATHERS one leads to another one");
        OlderSkin two = withMaps(1, 0, 2, 65535, 3, 0);
        c.due("its father", two.hangs(20), 1);
        c.due("earlier, but no father of it", two.hangs(21), 0);
        c.due("not on itself", two.hangs(22), 0);
    }

    private static void treesAndShares() {
        c.says("29: TREE (mn -1): the sum of differing bits over all MAPS with a FATHER");
        c.due("no maps", new OlderSkin().shared(-1), 0);
        c.due("one map", withMaps(5, 65535).shared(-1), 0);
        c.due("none has a father", withMaps(5, 65535, 5, 0).shared(-1), 0);
        c.due("all have but one", withMaps(1, 0, 2, 65535, 3, 65534, 4, 1).shared(-1), 16 + 1 + 1);
        c.due("the greatest", withMaps(1, 0, 2, 65535).shared(-1), 16);
        c.due("map 0 has a father", withMaps(2, 7, 1, 0).shared(-1), 3);
        c.due("the last of eight has", withMaps(1, 0, 1, 0, 1, 0, 1, 0, 1, 0, 1, 0, 1, 0, 2, 9).shared(-1), 2);
        c.says("29: SHARED of two MAPS (mn). BAD (one and the same).");
        for (int maps = 0; maps <= 8; maps++) {
            OlderSkin x = new OlderSkin();
            for (int k = 0; k < maps; k++) {
                x.map(100, 0);
            }
            for (int mn = -25; mn <= 125; mn++) {
                boolean so = mn >= 0 && mn / 10 < maps && mn % 10 < maps && mn / 10 != mn % 10;
                c.due("shared(" + mn + ") of " + maps, x.shared(mn), so || mn == -1 ? 0 : BAD);
            }
            c.due("the greatest int", x.shared(Integer.MAX_VALUE), BAD);
            c.due("the least int", x.shared(Integer.MIN_VALUE), BAD);
        }
    }

    private static void slipsOfTwoAlone() {
        c.says("29: slips that two MAPS have and no other MAP has: bits");
        OlderSkin x = withMaps(1, 65535, 1, 65535);
        c.due("all of them", x.shared(1), 65535);
        x.map(1, 0x8001);
        c.due("but those of a third", x.shared(1), 0x7ffe);
        c.due("with the third none is left", x.shared(2), 0);
        x.map(1, 0x7ffe);
        c.due("none is left", x.shared(10), 0);
        c.due("map 0 is another one, too", withMaps(1, 1, 1, 3, 1, 3).shared(12), 2);
        c.due("two without any", withMaps(1, 0, 1, 0).shared(1), 0);
        c.due("one alone has them", withMaps(1, 65535, 1, 0).shared(1), 0);
    }
}
