import java.util.ArrayList;
import java.util.List;

/** Promises 14 to 22: dots, their means, odd ones, chance, who chose, what bars. */
public final class DotsTest {
    private static final Checks c = new Checks("DotsTest");
    private static final int BAD = OlderSkin.BAD, NOT = OlderSkin.NOT, FULL = OlderSkin.FULL, VOID = OlderSkin.VOID;

    public static void main(String[] args) {
        dotsCome();
        mended();
        dotsFromRows();
        rowsThatLackOrEnd();
        means();
        oddOnes();
        chances();
        chosenOnes();
        barred();
        c.end();
    }

    private static void dotsCome() {
        OlderSkin x = new OlderSkin();
        c.due("dot(-1, 0)", x.dot(-1, 0), BAD);
        c.due("dot(-10, 0)", x.dot(-10, 0), BAD);
        c.due("dot(8, 0)", x.dot(8, 0), BAD);
        c.due("dot(9, 0)", x.dot(9, 0), BAD);
        c.due("dot(50, 0)", x.dot(50, 0), BAD);
        c.due("dot(0, -1)", x.dot(0, -1), BAD);
        c.due("dot(0, 10000)", x.dot(0, 10000), BAD);
        for (int k = 0; k < 40; k++) {
            c.due("dot " + k, x.dot(10 * (k % 5) + k % 8, k == 0 ? 9999 : k), k);
        }
        c.due("41st", x.dot(0, 0), FULL);
        c.due("41st, bad", x.dot(8, 0), BAD);
        c.due("count(4)", x.count(4), 40);
    }

    private static void mended() {
        OlderSkin x = new OlderSkin();
        x.dot(3, 40);
        c.due("mend(1, 0)", x.mend(1, 0), BAD);
        c.due("mend(-1, 0)", x.mend(-1, 0), BAD);
        c.due("mend(0, -1)", x.mend(0, -1), BAD);
        c.due("mend(0, 10000)", x.mend(0, 10000), BAD);
        c.due("mend(0, 9999)", x.mend(0, 9999), 40);
        c.due("mean(3)", x.mean(3), 9999);
        c.due("mend(0, 0)", x.mend(0, 0), 9999);
        c.due("mean(3) then", x.mean(3), 0);
    }

    private static void putAll(OlderSkin x, int shelf, int... values) {
        x.row(shelf, 1, values.length);
        for (int k = 0; k < values.length; k++) {
            x.put(shelf, k, values[k]);
        }
    }

    private static void dotsFromRows() {
        OlderSkin x = new OlderSkin();
        putAll(x, 2, 9, 0, 0, 10, 1, 1, 20, 4, 7, 9999, 0, 6, 0);
        c.due("dots(6, 0, 1)", x.dots(6, 0, 1), BAD);
        c.due("dots(-1, 0, 1)", x.dots(-1, 0, 1), BAD);
        c.due("dots(2, 0, 0)", x.dots(2, 0, 0), BAD);
        c.due("dots(2, 0, 21)", x.dots(2, 0, 21), BAD);
        c.due("a house that is not so", x.dots(2, 0, 1), 0);
        c.due("none came", x.count(4), 0);
        c.due("two of four", x.dots(2, 1, 2), 2);
        c.due("count", x.count(4), 2);
        c.due("mean(0)", x.mean(0), 10);
        c.due("mean(11)", x.mean(11), 20);
        c.due("all that are left", x.dots(2, 7, 20), 2);
        c.due("mean(47)", x.mean(47), 9999);
        c.due("mean(6)", x.mean(6), 0);
        putAll(x, 0, 0, 0, 5, 0, 8, 5, 0, 0, 5);
        c.due("an ink that is not so", x.dots(0, 0, 3), 1);
        putAll(x, 0, 0, 0, 5, 0, 0, 10000, 0, 0, 5);
        c.due("a stuff that is not so", x.dots(0, 0, 3), 1);
        putAll(x, 0, 0, 0, 5, 0, 0, -1);
        c.due("a stuff below 0", x.dots(0, 0, 2), 1);
        putAll(x, 0, 0, 0, 5, -1, 0, 1);
        c.due("a house below 0", x.dots(0, 0, 2), 1);
        putAll(x, 0, 0, 0, 5, 0, -1, 1);
        c.due("an ink below 0", x.dots(0, 0, 2), 1);
        c.due("count(9): a dot that comes is no change", x.count(9), 0);
    }

    private static void rowsThatLackOrEnd() {
        OlderSkin x = new OlderSkin();
        c.due("a bare shelf is missing", x.dots(0, 0, 5), 0);
        c.due("a bare shelf, n not so", x.dots(0, 0, 0), BAD);
        x.row(0, 1, 8);
        c.due("ends within a three", x.dots(0, 0, 20), 2);
        c.due("ends within a three, one missing", x.dots(0, 6, 1), 0);
        c.due("just behind the end", x.dots(0, 8, 1), 0);
        c.due("far behind the end", x.dots(0, Integer.MAX_VALUE, 20), 0);
        c.due("ahead of the row", x.dots(0, -1, 1), 0);
        c.due("far ahead of the row", x.dots(0, Integer.MIN_VALUE, 1), 0);
        c.due("the last three", x.dots(0, 5, 20), 1);
        c.due("count", x.count(4), 3);
        x.row(1, 1, 0);
        c.due("an empty row", x.dots(1, 0, 1), 0);
        x.row(1, 1, 2);
        c.due("a row of two", x.dots(1, 0, 1), 0);
        int[] others = {0, 2, 3, 4};
        for (int sort : others) {
            x.row(1, sort, 6);
            c.due("a row of sort " + sort, x.dots(1, 0, 1), -12);
        }
        c.due("another sort, n not so", x.dots(1, 0, 21), BAD);
        x.body(0);
        x.keep(1, 0);
        c.due("a body", x.dots(1, 0, 1), -12);
        x.row(2, 1, 60);
        c.due("twenty", x.dots(2, 0, 20), 20);
        c.due("up to full", x.dots(2, 0, 20), 17);
        c.due("full", x.dots(2, 0, 20), 0);
        c.due("count(4)", x.count(4), 40);
    }

    private static void means() {
        OlderSkin x = new OlderSkin();
        c.due("mean(-1)", x.mean(-1), BAD);
        c.due("mean(-10)", x.mean(-10), BAD);
        c.due("mean(8)", x.mean(8), BAD);
        c.due("mean(60)", x.mean(60), BAD);
        c.due("mean(58)", x.mean(58), BAD);
        c.due("mean(57)", x.mean(57), NOT);
        x.dot(12, 3);
        x.dot(12, 4);
        x.dot(22, 9);
        x.dot(13, 1000);
        c.due("cut", x.mean(12), 3);
        c.due("all houses", x.mean(52), 5);
        c.due("another house", x.mean(2), NOT);
        c.due("another ink", x.mean(13), 1000);
    }

    private static void oddOnes() {
        OlderSkin x = new OlderSkin();
        c.due("odd(-1)", x.odd(-1), BAD);
        c.due("odd(7)", x.odd(7), BAD);
        c.due("none", x.odd(6), 0);
        x.dot(6, 0);
        x.dot(16, 5);
        x.dot(26, 6);
        x.dot(0, 6);
        c.due("no dot of the old book", x.odd(6), 3);
        x.dot(7, 5);
        c.due("more than, not as much as", x.odd(6), 1);
        x.dot(7, 2);
        c.due("than each of them", x.odd(6), 1);
        x.dot(7, 6);
        c.due("than the greatest", x.odd(6), 0);
        OlderSkin first = new OlderSkin();
        first.dot(7, 5);
        first.dot(0, 5);
        first.dot(0, 6);
        c.due("the old book's dot is the first", first.odd(0), 1);
    }

    /** As the document says it, with lists. */
    private static int chanceSaid(int[] inks, int[] stuffs, int ink, int seed, int n) {
        List<Integer> pool = new ArrayList<>();
        List<Boolean> its = new ArrayList<>();
        int real = 0;
        for (int k = 0; k < inks.length; k++) {
            if (inks[k] == ink || inks[k] == 7) {
                pool.add(stuffs[k]);
                its.add(inks[k] == ink);
                real += inks[k] == ink ? stuffs[k] : 0;
            }
        }
        int z = seed;
        int often = 0;
        for (int k = 0; k < n; k++) {
            for (int place = pool.size() - 1; place >= 1; place--) {
                z = z * 1103515245 + 12345;
                int j = (z >>> 8) % (place + 1);
                Integer there = pool.set(j, pool.get(place));
                pool.set(place, there);
            }
            int sum = 0;
            for (int place = 0; place < pool.size(); place++) {
                sum += its.get(place) ? pool.get(place) : 0;
            }
            often += sum >= real ? 1 : 0;
        }
        return often;
    }

    private static void chances() {
        OlderSkin x = new OlderSkin();
        int[] inks = {2, 7, 3, 2, 7, 7, 2, 6, 7, 6, 2};
        int[] stuffs = {90, 10, 5000, 80, 95, 20, 60, 7, 85, 9, 75};
        c.due("chance(-1, 0, 1)", x.chance(-1, 0, 1), BAD);
        c.due("chance(7, 0, 1)", x.chance(7, 0, 1), BAD);
        c.due("chance(0, 0, 0)", x.chance(0, 0, 0), BAD);
        c.due("chance(0, 0, 51)", x.chance(0, 0, 51), BAD);
        x.dot(inks[0], stuffs[0]);
        c.due("none of the old book", x.chance(2, 0, 1), NOT);
        for (int k = 1; k < inks.length; k++) {
            x.dot(10 * (k % 5) + inks[k], stuffs[k]);
        }
        c.due("none in it", x.chance(4, 0, 1), NOT);
        c.due("n not so goes first", x.chance(4, 0, 0), BAD);
        int[] seeds = {0, 1, 7, -1, Integer.MIN_VALUE, Integer.MAX_VALUE, 123456};
        int[] tried = {2, 3, 6};
        for (int seed : seeds) {
            for (int ink : tried) {
                for (int n = 1; n <= 50; n += 7) {
                    String call = "chance(" + ink + ", " + seed + ", " + n + ")";
                    c.due(call, x.chance(ink, seed, n), chanceSaid(inks, stuffs, ink, seed, n));
                }
            }
        }
        c.due("the dots stay as they were", x.mean(52), (90 + 80 + 60 + 75) / 4);
        chanceOfForty();
    }

    private static void chanceOfForty() {
        OlderSkin x = new OlderSkin();
        int[] inks = new int[40];
        int[] stuffs = new int[40];
        for (int k = 0; k < 40; k++) {
            inks[k] = k * k % 3 == 0 ? 0 : 7;
            stuffs[k] = k * 997 % 9999;
            x.dot(inks[k], stuffs[k]);
        }
        for (int seed = 0; seed < 40; seed++) {
            c.due("chance of forty, seed " + seed, x.chance(0, seed, 50), chanceSaid(inks, stuffs, 0, seed, 50));
        }
        OlderSkin two = new OlderSkin();
        two.dot(0, 5);
        two.dot(7, 6);
        int[][] said = {{0, 7}, {5, 6}};
        for (int n = 1; n <= 50; n++) {
            c.due("chance of two, n " + n, two.chance(0, 1, n), chanceSaid(said[0], said[1], 0, 1, n));
        }
    }

    private static void chosenOnes() {
        OlderSkin x = new OlderSkin();
        c.due("chosen(-1)", x.chosen(-1), VOID);
        c.due("chosen(5)", x.chosen(5), VOID);
        x.dot(0, 11);
        x.dot(5, 10);
        x.dot(6, 5000);
        x.dot(7, 6000);
        c.due("none of the others", x.chosen(0), VOID);
        c.due("none of its own", x.chosen(1), VOID);
        x.dot(16, 1);
        x.dot(17, 1);
        c.due("bare skin and old books count not", x.chosen(1), VOID);
        x.dot(11, 30);
        x.dot(25, 41);
        c.due("each mean is cut: 10 less 35", x.chosen(0), -25);
        c.due("30 less 20", x.chosen(1), 10);
        c.due("41 less 17", x.chosen(2), 24);
        c.due("none in house 4", x.chosen(4), VOID);
        x.dot(40, 100);
        c.due("100 less 23", x.chosen(4), 77);
        c.due("no house 5, though all are there", x.chosen(5), VOID);
    }

    private static void barred() {
        OlderSkin x = new OlderSkin();
        c.due("made(-1, 0)", x.made(-1, 0), BAD);
        c.due("made(2002, 0)", x.made(2002, 0), BAD);
        c.due("made(0, -1)", x.made(0, -1), BAD);
        c.due("made(0, 10000)", x.made(0, 10000), BAD);
        c.due("bars(-1, 0)", x.bars(-1, 0), BAD);
        c.due("bars(6, 0)", x.bars(6, 0), BAD);
        c.due("bars(0, -1)", x.bars(0, -1), BAD);
        c.due("bars(0, 2001)", x.bars(0, 2001), BAD);
        x.dot(3, 9999);
        c.due("not known: bars none", x.bars(3, 0), 0);
        c.due("made(1900, 9999)", x.made(1900, 9999), 2001);
        c.due("not above the bound", x.bars(3, 0), 0);
        c.due("made(1900, 50)", x.made(1900, 50), 1900);
        c.due("the year ahead of it", x.bars(3, 1899), 1);
        c.due("that year", x.bars(3, 1900), 0);
        c.due("an ink without dots", x.bars(2, 0), 0);
        x.made(1900, 0);
        c.due("an ink without dots, bound 0", x.bars(2, 0), 0);
        x.dot(2, 0);
        c.due("a mean of 0, bound 0", x.bars(2, 0), 0);
        x.dot(42, 2);
        c.due("all houses", x.bars(2, 0), 1);
        c.due("made(2001, 0)", x.made(2001, 0), 1900);
        c.due("not known again", x.bars(2, 0), 0);
        c.due("made is no change", x.count(9), 0);
        c.due("made(0, 0)", x.made(0, 0), 2001);
        c.due("made in year 0 bars none", x.bars(2, 0), 0);
        c.due("year 0 was told", x.made(1, 0), 0);
        c.due("year 1 bars year 0", x.bars(2, 0), 1);
        x.dot(0, 5);
        c.due("ink 0 bars", x.bars(0, 0), 1);
    }
}
