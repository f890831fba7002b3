/** Boundary cases of promises 38 to 47, each with the words of the document that name it. */
public final class ActsEdgesTest {
    private static final Checks c = new Checks("ActsEdgesTest");
    private static final int BAD = OlderSkin.BAD, FULL = OlderSkin.FULL;
    private static final int BYTES = 0, SHORTS = 1, INTS = 2, LONGS = 3, BOOLEANS = 4;

    public static void main(String[] args) {
        bodiesAsTheyCome();
        noSuchBodyOrAct();
        actsThatWrap();
        traceOfTheLatest();
        heldByAShelf();
        rowsOfSizes();
        noughtAtFirst();
        putRefused();
        lowestBits();
        elementRefused();
        shiftRefused();
        shiftAtTheEnds();
        shiftWithinOne();
        takenRefused();
        takenUnder();
        countRefused();
        countsFull();
        c.end();
    }

    private static OlderSkin withBodies(int... kinds) {
        OlderSkin x = new OlderSkin();
        for (int kind : kinds) {
            x.body(kind);
        }
        return x;
    }

    /** Shelf 0 holds nothing, 1 a body, 2 a row of ints of 5, 3 one of 3, 4 one of longs of 5, 5 an empty one of ints. */
    private static OlderSkin withShelves() {
        OlderSkin x = withBodies(3);
        x.keep(1, 0);
        x.row(2, INTS, 5);
        x.row(3, INTS, 3);
        x.row(4, LONGS, 5);
        x.row(5, INTS, 0);
        for (int k = 0; k < 5; k++) {
            x.put(2, k, 10 + k);
        }
        return x;
    }

    private static void bodiesAsTheyCome() {
        c.says("38: BODIES 0 .. 49 are kept; FULL");
        OlderSkin x = new OlderSkin();
        for (int k = 0; k <= 49; k++) {
            c.due("body", x.body(k % 8), k);
        }
        c.due("a fiftieth number is not there", x.body(0), FULL);
        c.due("count(10)", x.count(10), 50);
        c.due("BAD is named ahead of FULL", x.body(8), BAD);
        c.due("BAD is named ahead of FULL", x.body(-1), BAD);
        c.due("the last acts", x.act(49, 0, 1), ActsTest.actOf(49 % 8, 49, 0, 1));
        c.due("none behind it", x.act(50, 0, 1), 0);
        c.due("the last is kept on a shelf", x.keep(0, 49), 1);
        c.due("none behind it", x.keep(0, 50), BAD);
        c.says("38: A BODY of a KIND (0 .. 7). BAD");
        c.range("body(kind)", 0, 7, BAD, v -> new OlderSkin().body(v));
    }

    private static void noSuchBodyOrAct() {
        c.says("39: 0, and no TRACE then: no such BODY, ACT");
        int[] far = {Integer.MIN_VALUE, -1, 2, 50, Integer.MAX_VALUE};
        for (int body : far) {
            OlderSkin x = withBodies(1, 7);
            c.due("an act", x.act(0, 0, 5), 8);
            c.due("act(" + body + ", 0, 5)", x.act(body, 0, 5), 0);
            c.due("no trace", x.trace(0), BAD);
            c.due("none ran", x.count(11), 0);
        }
        int[] acts = {Integer.MIN_VALUE, -1, 4, 5, Integer.MAX_VALUE};
        for (int act : acts) {
            OlderSkin x = withBodies(1, 7);
            c.due("an act", x.act(1, 3, 5) != 0);
            c.due("act(1, " + act + ", 5)", x.act(1, act, 5), 0);
            c.due("no trace", x.trace(0), BAD);
            c.due("none ran", x.count(11), 0);
        }
        OlderSkin none = new OlderSkin();
        c.due("without bodies", none.act(0, 0, 5), 0);
        c.due("no trace", none.trace(0), BAD);
        OlderSkin nought = withBodies(0);
        c.due("an act that answers 0", nought.act(0, 0, 0), 0);
        c.due("has a trace", nought.trace(0), 1);
        c.due("one ran", nought.count(11), 1);
    }

    private static void actsThatWrap() {
        c.says("39: x (an int that wraps)");
        OlderSkin x = withBodies(0, 1, 2, 3, 4, 5, 6, 7);
        int most = Integer.MAX_VALUE;
        int least = Integer.MIN_VALUE;
        c.due("lies: x + n", x.act(1, 0, most), least + 3);
        c.due("needs: lies * 2", x.act(0, 1, 1 << 30), least);
        c.due("needs: lies * 2", x.act(0, 1, least), 0);
        c.due("needs: less of the least", x.act(2, 1, (1 << 30) - 2), least);
        c.due("shows * 3", x.act(3, 2, most), (most ^ 3) * 3);
        c.due("needs of x and 1", x.act(4, 1, most), -((least + 4) * 2));
        c.due("shows less lies", x.act(5, 2, least), (least ^ 5) - 7);
        c.due("lies * 2", x.act(6, 0, most), (most + 6) * 2);
        c.due("tells less 1", x.act(7, 3, least), ActsTest.actOf(7, 7, 3, least));
        for (int kind = 0; kind < 8; kind++) {
            for (int act = 0; act < 4; act++) {
                c.due("the greatest", x.act(kind, act, most), ActsTest.actOf(kind, kind, act, most));
                c.due("the least", x.act(kind, act, least), ActsTest.actOf(kind, kind, act, least));
            }
        }
    }

    private static void traceOfTheLatest() {
        c.says("40: THE TRACE's i-th body. BAD.");
        OlderSkin x = withBodies(7, 0);
        c.due("ahead of any act", x.trace(0), BAD);
        x.act(0, 3, 0);
        c.range("trace(i) of eight", 0, 7, BAD, x::trace);
        int[] ran = {81, 2, 80, 10, 70, 1, 11, 11};
        for (int k = 0; k < ran.length; k++) {
            c.due("as they began", x.trace(k), ran[k]);
        }
        c.says("40: numbers of the bodies that ran in the latest act()");
        x.act(1, 0, 0);
        c.due("one", x.trace(0), 1);
        c.due("nothing of the one ahead is left", x.trace(1), BAD);
        c.says("40: the first 24 are kept");
        int longest = 0;
        for (int kind = 0; kind < 8; kind++) {
            for (int act = 0; act < 4; act++) {
                OlderSkin y = withBodies(kind);
                y.act(0, act, 3);
                longest = Math.max(longest, y.count(11));
                c.due("all that ran are kept", y.trace(y.count(11) - 1) > 0);
                c.due("none behind them", y.trace(y.count(11)), BAD);
                c.due("none at 24", y.trace(24), BAD);
            }
        }
        c.due("no act runs 24 bodies", longest, 8);
    }

    private static void heldByAShelf() {
        c.says("41: A SHELF (0 .. 5) holds nothing (body -1), or a BODY: 1. BAD.");
        c.range("keep(shelf, 0)", 0, 5, BAD, v -> withBodies(2).keep(v, 0));
        c.range("keep(shelf, -1)", 0, 5, BAD, v -> new OlderSkin().keep(v, -1));
        c.range("keep(0, body) of three", -1, 2, BAD, v -> withBodies(2, 3, 4).keep(0, v));
        c.range("keep(0, body) of none", -1, -1, BAD, v -> new OlderSkin().keep(0, v));
        OlderSkin x = withShelves();
        c.due("refused", x.keep(1, 1), BAD);
        c.due("the body stays", x.taken(1, 0), 3);
        c.due("refused", x.keep(2, -2), BAD);
        c.due("the row stays", x.element(2, 4), 14);
        c.due("nothing", x.keep(1, -1), 1);
        c.due("the body is gone", x.taken(1, 0), -11);
        c.due("a body over a row", x.keep(2, 0), 1);
        c.due("the row is gone", x.put(2, 0, 0), -12);
        c.due("nothing over a row", x.keep(4, -1), 1);
        c.due("the row is gone", x.put(4, 0, 0), -11);
        c.due("nothing over nothing", x.keep(0, -1), 1);
    }

    private static void rowsOfSizes() {
        c.says("42: A SHELF holds a ROW: 1. BAD (sort, n above 60); -14");
        c.range("row(shelf, 0, 5)", 0, 5, BAD, v -> new OlderSkin().row(v, 0, 5));
        c.range("row(0, sort, 5)", 0, 4, BAD, v -> new OlderSkin().row(0, v, 5));
        int[] above = {61, 62, 1000, Integer.MAX_VALUE};
        for (int n : above) {
            c.due("row(0, 0, " + n + ")", new OlderSkin().row(0, 0, n), BAD);
        }
        int[] below = {-1, -2, -60, Integer.MIN_VALUE};
        for (int n : below) {
            c.due("row(0, 0, " + n + ")", new OlderSkin().row(0, 0, n), -14);
            c.due("BAD is named ahead of -14: sort", new OlderSkin().row(0, 5, n), BAD);
            c.due("BAD is named ahead of -14: sort", new OlderSkin().row(0, -1, n), BAD);
            c.due("BAD is named ahead of -14: shelf", new OlderSkin().row(6, 0, n), BAD);
        }
        c.says("42: of 0 .. 60 elements");
        for (int sort = 0; sort <= 4; sort++) {
            for (int n = 0; n <= 60; n += 30) {
                OlderSkin x = new OlderSkin();
                c.due("row(5, " + sort + ", " + n + ")", x.row(5, sort, n), 1);
                c.due("the last place", x.put(5, n - 1, 1), n == 0 ? -13 : 1);
                c.due("behind it", x.put(5, n, 1), -13);
            }
        }
        OlderSkin x = withShelves();
        c.due("refused: n", x.row(2, INTS, 61), BAD);
        c.due("refused: size", x.row(2, INTS, -1), -14);
        c.due("refused: sort", x.row(2, 5, 5), BAD);
        c.due("the row stays", x.element(2, 4), 14);
        c.due("refused: size", x.row(0, INTS, -1), -14);
        c.due("nothing is there still", x.put(0, 0, 0), -11);
        c.due("a row over a body", x.row(1, INTS, 1), 1);
        c.due("the body is gone", x.taken(1, 0), -12);
    }

    private static void noughtAtFirst() {
        c.says("42: 0 at first (false)");
        for (int sort = 0; sort <= 4; sort++) {
            OlderSkin x = new OlderSkin();
            x.row(0, sort, 60);
            for (int k = 0; k < 60; k++) {
                c.due("element " + k, x.element(0, k), 0);
                x.put(0, k, 1);
            }
            x.row(0, sort, 60);
            for (int k = 0; k < 60; k++) {
                c.due("element " + k + " of a new one", x.element(0, k), 0);
            }
        }
        OlderSkin x = withShelves();
        x.keep(2, -1);
        x.row(2, INTS, 5);
        c.due("behind nothing", x.element(2, 4), 0);
        x.put(2, 4, 9);
        x.keep(2, 0);
        x.row(2, INTS, 5);
        c.due("behind a body", x.element(2, 4), 0);
    }

    private static void putRefused() {
        c.says("43: Element i of a ROW becomes v: 1. BAD, -11, -12, -13");
        int[] shelves = {Integer.MIN_VALUE, -1, 6, Integer.MAX_VALUE};
        for (int shelf : shelves) {
            c.due("BAD: put(" + shelf + ", 0, 0)", withShelves().put(shelf, 0, 0), BAD);
            c.due("BAD: put(" + shelf + ", -1, 0)", withShelves().put(shelf, -1, 0), BAD);
        }
        OlderSkin x = withShelves();
        int[] places = {Integer.MIN_VALUE, -1, 5, 60, Integer.MAX_VALUE};
        for (int i : places) {
            c.due("-11 is named ahead of -13", x.put(0, i, 0), -11);
            c.due("-12 is named ahead of -13", x.put(1, i, 0), -12);
            c.due("-13: put(2, " + i + ", 0)", x.put(2, i, 0), -13);
            c.due("-13: of an empty row", x.put(5, i, 0), -13);
        }
        c.due("-11", x.put(0, 0, 0), -11);
        c.due("-12", x.put(1, 0, 0), -12);
        c.due("-13: an empty row has no first place", x.put(5, 0, 0), -13);
        for (int k = 0; k < 5; k++) {
            c.due("what is refused changes nothing", x.element(2, k), 10 + k);
        }
        c.due("the first place", x.put(2, 0, 1), 1);
        c.due("the last place", x.put(2, 4, 2), 1);
        c.due("the first", x.element(2, 0), 1);
        c.due("the last", x.element(2, 4), 2);
        c.due("the second stays", x.element(2, 1), 11);
    }

    private static void lowestBits() {
        c.says("43: what is put in keeps its lowest bits (a boolean: whether it is not 0; 1 or 0)");
        OlderSkin x = new OlderSkin();
        for (int sort = 0; sort <= 4; sort++) {
            x.row(sort, sort, 1);
        }
        kept(x, BYTES, 127, 127);
        kept(x, BYTES, 128, -128);
        kept(x, BYTES, 255, -1);
        kept(x, BYTES, 256, 0);
        kept(x, BYTES, -128, -128);
        kept(x, BYTES, -129, 127);
        kept(x, SHORTS, 32767, 32767);
        kept(x, SHORTS, 32768, -32768);
        kept(x, SHORTS, 65535, -1);
        kept(x, SHORTS, 65536, 0);
        kept(x, SHORTS, -32769, 32767);
        kept(x, INTS, 2147483647L, 2147483647L);
        kept(x, INTS, 2147483648L, -2147483648L);
        kept(x, INTS, 4294967295L, -1);
        kept(x, INTS, 4294967296L, 0);
        kept(x, INTS, -2147483649L, 2147483647L);
        kept(x, LONGS, Long.MAX_VALUE, Long.MAX_VALUE);
        kept(x, LONGS, Long.MIN_VALUE, Long.MIN_VALUE);
        kept(x, BOOLEANS, 0, 0);
        kept(x, BOOLEANS, 1, 1);
        kept(x, BOOLEANS, -1, 1);
        kept(x, BOOLEANS, 2, 1);
        kept(x, BOOLEANS, 256, 1);
        kept(x, BOOLEANS, 4294967296L, 1);
        kept(x, BOOLEANS, Long.MIN_VALUE, 1);
        for (int sort = 0; sort <= 2; sort++) {
            kept(x, sort, Long.MAX_VALUE, -1);
            kept(x, sort, Long.MIN_VALUE, 0);
        }
    }

    private static void kept(OlderSkin x, int sort, long v, long want) {
        c.due("put(" + sort + ", 0, " + v + ")", x.put(sort, 0, v), 1);
        c.due("element of " + v + " in sort " + sort, x.element(sort, 0), want);
    }

    private static void elementRefused() {
        c.says("44: Element i of a ROW; Long.MIN_VALUE: BAD, -11 to -13");
        int[] shelves = {Integer.MIN_VALUE, -1, 6, Integer.MAX_VALUE};
        for (int shelf : shelves) {
            c.due("BAD: element(" + shelf + ", 0)", withShelves().element(shelf, 0), Long.MIN_VALUE);
        }
        c.due("-11", withShelves().element(0, 0), Long.MIN_VALUE);
        c.due("-12", withShelves().element(1, 0), Long.MIN_VALUE);
        int[] places = {Integer.MIN_VALUE, -1, 5, 60, Integer.MAX_VALUE};
        for (int i : places) {
            c.due("-13: element(2, " + i + ")", withShelves().element(2, i), Long.MIN_VALUE);
        }
        c.due("-13: of an empty row", withShelves().element(5, 0), Long.MIN_VALUE);
        c.due("the first", withShelves().element(2, 0), 10);
        c.due("the last", withShelves().element(2, 4), 14);
    }

    private static void shiftRefused() {
        c.says("45: BAD, -11 (either), -12 (no ROWS, or of unlike sorts), -13");
        c.range("shift(shelf, 0, 2, 0, 0)", 0, 5, BAD, v -> withShelves().shift(v, 0, 2, 0, 0));
        c.range("shift(2, 0, other, 0, 0)", 0, 5, BAD, v -> withShelves().shift(2, 0, v, 0, 0));
        OlderSkin x = withShelves();
        c.due("BAD ahead of -11", x.shift(0, 0, 6, 0, 0), BAD);
        c.due("BAD ahead of -12", x.shift(6, 0, 1, 0, 0), BAD);
        c.due("BAD ahead of -13", x.shift(2, -1, -1, 0, 0), BAD);
        c.due("-11: the one", x.shift(0, 0, 2, 0, 1), -11);
        c.due("-11: the other", x.shift(2, 0, 0, 0, 1), -11);
        c.due("-11: both", x.shift(0, 0, 0, 0, 0), -11);
        c.due("-11 ahead of -12: the one is a body", x.shift(1, 0, 0, 0, 0), -11);
        c.due("-11 ahead of -12: the other is a body", x.shift(0, 0, 1, 0, 0), -11);
        c.due("-11 ahead of -13", x.shift(0, -1, 2, -1, -1), -11);
        c.due("-12: the one is a body", x.shift(1, 0, 2, 0, 0), -12);
        c.due("-12: the other is a body", x.shift(2, 0, 1, 0, 0), -12);
        c.due("-12: both are one body", x.shift(1, 0, 1, 0, 0), -12);
        c.due("-12: unlike sorts", x.shift(2, 0, 4, 0, 0), -12);
        c.due("-12: unlike sorts", x.shift(4, 0, 2, 0, 0), -12);
        c.due("-12 ahead of -13", x.shift(2, -1, 4, -1, -1), -12);
        c.due("-12 ahead of -13: a body", x.shift(1, 99, 2, 99, 99), -12);
        for (int one = 0; one <= 4; one++) {
            for (int other = 0; other <= 4; other++) {
                x.row(0, one, 2);
                x.row(1, other, 2);
                c.due("sorts " + one + " and " + other, x.shift(0, 0, 1, 0, 2), one == other ? 2 : -12);
            }
        }
    }

    private static void shiftAtTheEnds() {
        c.says("45: n elements of a ROW from i on come to another one from j on: n. -13");
        int[] numbers = {Integer.MIN_VALUE, -6, -1, 0, 1, 2, 3, 4, 5, 6, 60, Integer.MAX_VALUE};
        for (int i : numbers) {
            for (int j : numbers) {
                for (int n : numbers) {
                    boolean so = i >= 0 && j >= 0 && n >= 0 && (long) i + n <= 5 && (long) j + n <= 3;
                    OlderSkin x = withShelves();
                    String call = "shift(2, " + i + ", 3, " + j + ", " + n + ")";
                    c.due(call, x.shift(2, i, 3, j, n), so ? n : -13);
                    for (int k = 0; k < 3; k++) {
                        boolean came = so && k >= j && k < j + n;
                        c.due(call + ": element " + k, x.element(3, k), came ? 10 + i + k - j : 0);
                    }
                    c.due("the one it comes from stays", x.element(2, 4), 14);
                }
            }
        }
        c.due("none of an empty row", withShelves().shift(5, 0, 5, 0, 0), 0);
        c.due("one of an empty row", withShelves().shift(5, 0, 2, 0, 1), -13);
        c.due("one to an empty row", withShelves().shift(2, 0, 5, 0, 1), -13);
    }

    private static void shiftWithinOne() {
        c.says("45: (or the same) from j on, as they all were before");
        for (int i = 0; i <= 5; i++) {
            for (int j = 0; j <= 5; j++) {
                for (int n = 0; n <= 6; n++) {
                    OlderSkin x = withShelves();
                    boolean so = i + n <= 5 && j + n <= 5;
                    c.due("shift(2, " + i + ", 2, " + j + ", " + n + ")", x.shift(2, i, 2, j, n), so ? n : -13);
                    for (int k = 0; k < 5; k++) {
                        boolean came = so && k >= j && k < j + n;
                        c.due("element " + k, x.element(2, k), 10 + (came ? i + k - j : k));
                    }
                }
            }
        }
    }

    private static void takenRefused() {
        c.says("46: BAD, -11, -12");
        c.range("taken(shelf, 0)", 0, 5, BAD, v -> withShelves().taken(v, 0));
        for (int shelf = 0; shelf <= 2; shelf++) {
            int held = shelf;
            c.range("taken(" + held + ", k)", 0, 7, BAD, v -> withShelves().taken(held, v));
        }
        c.due("-11: nothing", withShelves().taken(0, 0), -11);
        c.due("-12: a row", withShelves().taken(2, 0), -12);
        c.due("-12: an empty row", withShelves().taken(5, 7), -12);
        c.due("BAD is named ahead of -11", withShelves().taken(0, 8), BAD);
        c.due("BAD is named ahead of -12", withShelves().taken(2, -1), BAD);
    }

    private static void takenUnder() {
        c.says("46: taken for a BODY of KIND k (0 .. 7), or under it: its KIND");
        int[] above = {-1, 0, 0, 1, 2, 0, 0, 6};
        for (int kind = 0; kind <= 7; kind++) {
            for (int k = 0; k <= 7; k++) {
                int at = kind;
                while (at >= 0 && at != k) {
                    at = above[at];
                }
                OlderSkin x = withBodies(0, kind);
                x.keep(5, 1);
                c.due("kind " + kind + " for " + k, x.taken(5, k), at == k ? kind : -12);
                c.due("it is held still", x.taken(5, 0), kind);
            }
        }
    }

    private static void countRefused() {
        c.says("47: How many: 0 .. 11. BAD.");
        c.range("count(what)", 0, 11, BAD, v -> new OlderSkin().count(v));
    }

    private static void countsFull() {
        c.says("47: How many, at the most");
        OlderSkin x = new OlderSkin();
        for (int k = 0; k < 50; k++) {
            x.sheet(0);
            x.hole(0, 0);
            x.line(0, 0);
            x.dot(0, 0);
            x.place(0, 0, 0);
            x.map(0, 0);
            x.body(7);
        }
        for (int k = 0; k < 61; k++) {
            x.mark(100 * (k / 40) + k % 40, 0);
        }
        for (int k = 0; k < 6; k++) {
            Checks.story(x, "1", 0, 1);
        }
        for (int k = 1; k <= 41; k++) {
            x.mend(0, k);
        }
        x.feed(4, 0);
        x.act(0, 3, 0);
        int[] most = {8, 40, 20, 60, 40, 20, 8, 4, 6, 40, 50, 8};
        for (int what = 0; what <= 11; what++) {
            c.due("count(" + what + ")", x.count(what), most[what]);
        }
    }
}
