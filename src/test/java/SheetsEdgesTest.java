/** Boundary cases of promises 1 to 9, each with the words of the document that name it. */
public final class SheetsEdgesTest {
    private static final Checks c = new Checks("SheetsEdgesTest");
    private static final int BAD = OlderSkin.BAD, NOT = OlderSkin.NOT, FULL = OlderSkin.FULL, BIG = OlderSkin.BIG;

    public static void main(String[] args) {
        aNewObject();
        sheetsAsTheyCome();
        agesToldAnew();
        holesAsTheyCome();
        slackWithinItsBounds();
        placesInOrder();
        moreThanSlack();
        aSheetOnceInAWorm();
        wormsThatAreNot();
        holesThatAreNot();
        ordersAtTheirBounds();
        sheetsAtMostSix();
        sideBySide();
        pairsOfSheets();
        withoutASheet();
        withoutTooMany();
        c.end();
    }

    private static OlderSkin withSheets(int n) {
        OlderSkin x = new OlderSkin();
        for (int k = 0; k < n; k++) {
            x.sheet(1000 + k);
        }
        return x;
    }

    /** Sheets, and holes in them as pairs of a sheet and a place. */
    private static OlderSkin withHoles(int sheets, int... holes) {
        OlderSkin x = withSheets(sheets);
        for (int k = 0; k < holes.length; k += 2) {
            x.hole(holes[k], holes[k + 1]);
        }
        return x;
    }

    private static void aNewObject() {
        c.says("1: No sheets, no dots.");
        OlderSkin x = new OlderSkin();
        for (int what = 0; what <= 11; what++) {
            c.due("count(" + what + ")", x.count(what), 0);
        }
        c.due("no sheet", x.age(0, 0), BAD);
        c.due("no dot", x.mend(0, 0), BAD);
        c.due("no line", x.mark(0, 0), BAD);
        c.due("no map", x.father(0, 0), BAD);
        c.due("no story", x.odds(0, 0), BAD);
        c.due("no body", x.keep(0, 0), BAD);
        c.due("no trace", x.trace(0), BAD);
        c.due("nothing to undo", x.undo(), OlderSkin.STATE);
        c.due("nothing to do again", x.redo(), OlderSkin.STATE);
        c.due("an empty tape", x.story(0, 1), -100);
        for (int shelf = 0; shelf <= 5; shelf++) {
            c.due("a shelf with nothing", x.put(shelf, 0, 0), -11);
        }
        OlderSkin other = new OlderSkin();
        x.sheet(5);
        x.dot(0, 1);
        c.due("another object is its own: sheets", other.count(0), 0);
        c.due("another object is its own: dots", other.count(4), 0);
        c.due("the object itself", x.count(0), 1);
    }

    private static void sheetsAsTheyCome() {
        c.says("2: SHEETS 0 .. 7, as they come; BAD, FULL");
        OlderSkin x = new OlderSkin();
        for (int k = 0; k <= 7; k++) {
            c.due("sheet", x.sheet(k), k);
            c.due("count(0)", x.count(0), k + 1);
        }
        c.due("an eighth number is not there", x.sheet(0), FULL);
        c.due("none came", x.count(0), 8);
        c.due("BAD is named ahead of FULL", x.sheet(-1), BAD);
        c.due("BAD is named ahead of FULL", x.sheet(2001), BAD);
        c.says("2: an AGE (a YEAR 0 .. 2000)");
        c.range("sheet(age)", 0, 2000, BAD, v -> new OlderSkin().sheet(v));
        OlderSkin refused = new OlderSkin();
        refused.sheet(-1);
        refused.sheet(2001);
        c.due("what is BAD brings none", refused.count(0), 0);
        c.due("and takes no number", refused.sheet(9), 0);
    }

    private static void agesToldAnew() {
        c.says("3: AGE of a SHEET becomes v: what it was. BAD.");
        c.range("age(sheet, 5) of three", 0, 2, BAD, v -> withSheets(3).age(v, 5));
        c.range("age(sheet, 5) of eight", 0, 7, BAD, v -> withSheets(8).age(v, 5));
        c.range("age(1, v)", 0, 2000, BAD, v -> withSheets(3).age(1, v));
        OlderSkin x = withSheets(2);
        c.due("age(1, 2000)", x.age(1, 2000), 1001);
        c.due("age(1, 0)", x.age(1, 0), 2000);
        c.due("age(1, 0) again", x.age(1, 0), 0);
        c.due("age(1, 2001)", x.age(1, 2001), BAD);
        c.due("it stays 0", x.age(1, 1), 0);
        c.due("the other stays", x.age(0, 1), 1000);
    }

    private static void holesAsTheyCome() {
        c.says("4: HOLES 0 .. 39, as they come");
        OlderSkin x = withSheets(1);
        for (int k = 0; k <= 39; k++) {
            c.due("hole", x.hole(0, 7), k);
        }
        c.due("a fortieth number is not there", x.hole(0, 7), FULL);
        c.due("count(1)", x.count(1), 40);
        c.due("BAD is named ahead of FULL: the sheet", x.hole(1, 7), BAD);
        c.due("BAD is named ahead of FULL: the place", x.hole(0, 1000), BAD);
        c.says("4: each in one SHEET");
        c.due("without sheets", new OlderSkin().hole(0, 0), BAD);
        c.range("hole(sheet, 5) of three", 0, 2, BAD, v -> withSheets(3).hole(v, 5));
        c.range("hole(sheet, 5) of eight", 0, 7, BAD, v -> withSheets(8).hole(v, 5));
        c.says("4: at a place (0 .. 999)");
        c.range("hole(0, place)", 0, 999, BAD, v -> withSheets(1).hole(0, v));
    }

    private static void slackWithinItsBounds() {
        c.says("5 to 9, 12, 13: by SLACK (0 .. 99)");
        OlderSkin x = withHoles(2, 0, 5, 1, 5);
        x.line(0, 0);
        x.line(0, 0);
        x.mark(0, 1);
        x.mark(100, 0);
        c.range("worms(slack, -1)", 0, 99, BAD, v -> x.worms(v, -1));
        c.range("worms(slack, 0)", 0, 99, BAD, v -> x.worms(v, 0));
        c.range("led(0, slack)", 0, 99, BAD, v -> x.led(0, v));
        c.range("orders(slack, 0)", 0, 99, BAD, v -> x.orders(v, 0));
        c.range("orders(slack, 1)", 0, 99, BAD, v -> x.orders(v, 1));
        c.range("side(slack, 1, 0)", 0, 99, BAD, v -> x.side(v, 1, 0));
        c.range("without(slack, 1)", 0, 99, BAD, v -> x.without(v, 1));
        c.range("fight(slack, 0)", 0, 99, BAD, v -> x.fight(v, 0));
        c.range("inks(slack, 1)", 0, 99, BAD, v -> x.inks(v, 1));
        c.range("inks(slack, -1)", 0, 99, BAD, v -> x.inks(v, -1));
        c.range("inks(slack, -2)", 0, 99, BAD, v -> x.inks(v, -2));
    }

    private static void placesInOrder() {
        c.says("5: all HOLES in order of place (of like ones by numbers)");
        OlderSkin x = withHoles(4, 3, 999, 2, 0, 1, 999, 0, 0);
        c.due("the least place is first", x.led(1, 0), 0);
        c.due("the greatest is last", x.led(0, 0), 1);
        c.due("worm 0", x.worms(0, 0), 0b0101);
        c.due("worm 1", x.worms(0, 1), 0b1010);
        OlderSkin mixed = withHoles(5, 0, 400, 1, 200, 2, 300, 3, 500, 4, 100);
        int[] led = {3, 1, 2, 4, 0};
        for (int hole = 0; hole < 5; hole++) {
            c.due("whatever came first: hole " + hole, mixed.led(hole, 99), led[hole]);
            c.due("and its sheet", mixed.worms(99, led[hole]), 1 << hole);
        }
        OlderSkin like = withHoles(2, 1, 50, 0, 50, 0, 50, 1, 50);
        c.due("numbers 0 and 1 are one worm", like.worms(0, 0), 0b11);
        c.due("number 2 begins the next", like.led(2, 0), 1);
        c.due("number 3 goes with it", like.led(3, 0), 1);
        OlderSkin split = withHoles(2, 1, 50, 1, 50, 0, 50);
        c.due("number 0 alone", split.worms(0, 0), 0b10);
        c.due("number 2 goes with number 1", split.worms(0, 1), 0b11);
    }

    private static void moreThanSlack() {
        c.says("5: one begins a new WORM, if it lies more than SLACK behind the one ahead of it");
        OlderSkin x = withHoles(3, 0, 100, 1, 199, 2, 298);
        c.due("as much as SLACK is not more", x.worms(99, -1), 1);
        c.due("through all", x.worms(99, 0), 0b111);
        c.due("one more than SLACK is", x.worms(98, -1), 3);
        OlderSkin none = withHoles(2, 0, 100, 1, 100, 0, 101);
        c.due("SLACK 0: like places", none.worms(0, 0), 0b11);
        c.due("SLACK 0: the next place", none.led(2, 0), 1);
        OlderSkin far = withHoles(2, 0, 0, 1, 100);
        c.due("100 is more than the greatest SLACK", far.worms(99, -1), 2);
        OlderSkin whole = withHoles(2, 0, 0, 1, 999);
        c.due("from the first place to the last", whole.worms(99, -1), 2);
    }

    private static void aSheetOnceInAWorm() {
        c.says("5: or its SHEET has a HOLE in that WORM already");
        OlderSkin x = withHoles(2, 0, 10, 1, 11, 0, 12, 1, 13, 1, 14);
        c.due("how many", x.worms(99, -1), 3);
        c.due("the first", x.worms(99, 0), 0b11);
        c.due("the second, with the one that began it", x.worms(99, 1), 0b11);
        c.due("the third", x.worms(99, 2), 0b10);
        OlderSkin eight = withHoles(8, 0, 1, 1, 1, 2, 1, 3, 1, 4, 1, 5, 1, 6, 1, 7, 1, 7, 1);
        c.due("all eight sheets", eight.worms(0, 0), 255);
        c.due("and the last one once more", eight.worms(0, 1), 128);
    }

    private static void wormsThatAreNot() {
        c.says("5: how many (i -1), the i-th's SHEETS as bits. BAD (also none such).");
        OlderSkin bare = withSheets(2);
        c.due("without holes", bare.worms(0, -1), 0);
        c.due("without holes, the first", bare.worms(0, 0), BAD);
        OlderSkin x = withHoles(2, 0, 0, 1, 500, 0, 900);
        c.range("worms(5, i) of three", -1, 2, BAD, v -> x.worms(5, v));
        OlderSkin forty = withSheets(1);
        for (int k = 0; k < 40; k++) {
            forty.hole(0, 0);
        }
        c.range("worms(0, i) of forty", -1, 39, BAD, v -> forty.worms(0, v));
    }

    private static void holesThatAreNot() {
        c.says("6: LED: the WORM of a HOLE. BAD.");
        c.due("without holes", withSheets(1).led(0, 0), BAD);
        OlderSkin x = withHoles(2, 0, 0, 1, 500, 0, 900);
        c.range("led(hole, 5) of three", 0, 2, BAD, v -> x.led(v, 5));
        OlderSkin forty = withSheets(1);
        for (int k = 0; k < 40; k++) {
            forty.hole(0, 999 - k);
        }
        c.range("led(hole, 0) of forty", 0, 39, BAD, v -> forty.led(v, 0));
        c.due("the one at the least place", forty.led(39, 0), 0);
        c.due("the one at the greatest", forty.led(0, 0), 39);
    }

    private static void ordersAtTheirBounds() {
        c.says("7: how many (what 0), the first as digits (1; NOT)");
        OlderSkin x = withHoles(3, 0, 0, 2, 0);
        c.range("orders(0, what)", 0, 1, BAD, v -> x.orders(0, v));
        c.says("7: without SHEETS one, 0");
        c.due("how many", new OlderSkin().orders(0, 0), 1);
        c.due("the first", new OlderSkin().orders(0, 1), 0);
        c.says("7: an ORDER and the one turned about are two");
        c.due("of two sheets", withSheets(2).orders(0, 0), 2);
        c.due("of one sheet it is the same", withSheets(1).orders(0, 0), 1);
        c.due("of one sheet", withSheets(1).orders(0, 1), 1);
        c.says("7: if its SHEETS lie one behind the other, none between");
        c.due("0 and 2 of three: 1 not between", x.orders(0, 0), 4);
        c.due("the first has them together", x.orders(0, 1), 132);
        c.says("7: the first as digits (SHEETS and 1)");
        OlderSkin middle = withHoles(3, 0, 0, 1, 0, 0, 200, 2, 200);
        c.due("an order can't begin with the one between", middle.orders(0, 1), 213);
        c.due("so there are two", middle.orders(0, 0), 2);
        OlderSkin last = withHoles(6, 0, 0, 5, 0, 5, 200, 4, 200, 4, 400, 3, 400, 3, 600, 2, 600, 2, 800, 1, 800);
        c.due("all in one chain", last.orders(0, 1), 165432);
        c.says("7: the first as digits (1; NOT)");
        OlderSkin ring = withHoles(3, 0, 0, 1, 0, 1, 200, 2, 200, 2, 400, 0, 400);
        c.due("no order lets all worms", ring.orders(0, 0), 0);
        c.due("so there is no first", ring.orders(0, 1), NOT);
    }

    private static void sheetsAtMostSix() {
        c.says("7: SHEETS at most 6, else BIG");
        int[] many = {1, 1, 2, 6, 24, 120, 720};
        int[] first = {0, 1, 12, 123, 1234, 12345, 123456};
        for (int n = 0; n <= 6; n++) {
            c.due("how many of " + n, withSheets(n).orders(99, 0), many[n]);
            c.due("the first of " + n, withSheets(n).orders(99, 1), first[n]);
        }
        for (int n = 7; n <= 8; n++) {
            OlderSkin x = withSheets(n);
            c.due("how many of " + n, x.orders(0, 0), BIG);
            c.due("the first of " + n, x.orders(0, 1), BIG);
            c.due("BAD is named ahead of BIG: what", x.orders(0, 2), BAD);
            c.due("BAD is named ahead of BIG: slack", x.orders(100, 0), BAD);
            c.due("side of " + n, x.side(0, 1, 0), BIG);
            c.due("MAY of " + n, x.side(0, 1, 1), BIG);
            c.due("side, BAD ahead of BIG: one and the same", x.side(0, 11, 0), BAD);
            c.due("side, BAD ahead of BIG: no such sheet", x.side(0, n, 0), BAD);
            c.due("side, BAD ahead of BIG: what", x.side(0, 1, 2), BAD);
        }
        OlderSkin ring = withHoles(7, 0, 0, 1, 0, 1, 200, 2, 200, 2, 400, 0, 400);
        c.due("BIG, though no order lets all worms", ring.orders(0, 1), BIG);
        c.due("and for side", ring.side(0, 1, 0), BIG);
    }

    private static void sideBySide() {
        c.says("8: SURE: two SHEETS that lie side by side in all of them (1; 0: in none, or not in all); MAY: in some");
        OlderSkin x = withHoles(4, 0, 0, 1, 0, 1, 300, 2, 300);
        c.range("side(0, 1, what)", 0, 1, BAD, v -> x.side(0, 1, v));
        c.due("in all: SURE", x.side(0, 1, 0), 1);
        c.due("in all: MAY", x.side(0, 1, 1), 1);
        c.due("in none: SURE", x.side(0, 2, 0), 0);
        c.due("in none: MAY", x.side(0, 2, 1), 0);
        c.due("not in all: SURE", x.side(0, 3, 0), 0);
        c.due("not in all: MAY", x.side(0, 3, 1), 1);
        c.due("in all, both behind the first: SURE", x.side(0, 12, 0), 1);
        c.due("turned about: SURE", x.side(0, 21, 0), 1);
        c.due("2 and 3 not in all: SURE", x.side(0, 23, 0), 0);
        c.due("2 and 3 not in all: MAY", x.side(0, 32, 1), 1);
        OlderSkin two = withSheets(2);
        c.due("two sheets are always", two.side(0, 1, 0), 1);
        OlderSkin free = withSheets(3);
        c.due("of three not in all: SURE", free.side(0, 2, 0), 0);
        c.due("of three not in all: MAY", free.side(0, 2, 1), 1);
        c.says("8: by SLACK (0 .. 99)");
        OlderSkin slow = withHoles(3, 0, 100, 1, 160, 1, 300, 2, 360);
        for (int what = 0; what <= 1; what++) {
            c.due("as far as SLACK: one worm each", slow.side(60, 1, what), 1);
            c.due("as far as SLACK: apart by the one between", slow.side(60, 2, what), 0);
            c.due("as far as SLACK: the other worm", slow.side(60, 12, what), 1);
            c.due("farther than SLACK: 0 and 1", slow.side(59, 1, what), what);
            c.due("farther than SLACK: 0 and 2", slow.side(59, 2, what), what);
            c.due("farther than SLACK: 1 and 2", slow.side(59, 21, what), what);
        }
        c.says("8: NOT: no ORDER");
        OlderSkin ring = withHoles(3, 0, 0, 1, 0, 1, 200, 2, 200, 2, 400, 0, 400);
        c.due("SURE", ring.side(0, 1, 0), NOT);
        c.due("MAY", ring.side(0, 1, 1), NOT);
        c.due("BAD is named ahead of NOT", ring.side(0, 11, 0), BAD);
        c.due("BAD is named ahead of NOT", ring.side(0, 3, 0), BAD);
    }

    private static void pairsOfSheets() {
        c.says("8: two SHEETS (st: 10 times the one and the other). BAD (one and the same)");
        for (int n = 0; n <= 6; n++) {
            OlderSkin x = withSheets(n);
            for (int st = -25; st <= 125; st++) {
                boolean so = st >= 0 && st / 10 < n && st % 10 < n && st / 10 != st % 10;
                c.due("side(0, " + st + ", 1) of " + n, x.side(0, st, 1), so ? 1 : BAD);
            }
            c.due("the greatest int", x.side(0, Integer.MAX_VALUE, 0), BAD);
            c.due("the least int", x.side(0, Integer.MIN_VALUE, 0), BAD);
        }
    }

    private static void withoutASheet() {
        c.says("9: WITHOUT a SHEET (its HOLES, too; WORMS found anew)");
        OlderSkin x = withHoles(4, 0, 0, 1, 5, 2, 10, 3, 10);
        c.due("its hole bridged a gap", x.without(5, 1), 4);
        c.due("with less slack too", x.without(4, 1), 4);
        c.due("the worm is one by slack 10", x.without(10, 1), 6);
        OlderSkin twice = withHoles(4, 0, 0, 1, 1, 0, 2, 2, 3);
        c.due("with sheet 0 there are two worms", twice.worms(9, -1), 2);
        c.due("without it one of 1 and 2", twice.without(9, 0), 4);
        c.due("the worms of all are found again then", twice.worms(9, -1), 2);
        c.says("9: BAD");
        c.due("without sheets", new OlderSkin().without(0, 0), BAD);
        c.range("without(5, sheet) of four", 0, 3, BAD, v -> x.without(5, v));
        c.says("9: without SHEETS one");
        c.due("the only one", withHoles(1, 0, 5).without(0, 0), 1);
        OlderSkin ring = withHoles(4, 0, 0, 1, 0, 1, 200, 2, 200, 2, 400, 0, 400);
        c.due("a ring lets none still", ring.without(0, 3), 0);
        c.due("a ring that is broken", ring.without(0, 0), 4);
    }

    private static void withoutTooMany() {
        c.says("9: how many ORDERS of the others there are (BIG by these)");
        for (int sheet = 0; sheet < 7; sheet++) {
            c.due("six others", withSheets(7).without(0, sheet), 720);
        }
        OlderSkin x = withSheets(8);
        for (int sheet = 0; sheet < 8; sheet++) {
            c.due("seven others", x.without(0, sheet), BIG);
        }
        c.due("BAD is named ahead of BIG: no such sheet", x.without(0, 8), BAD);
        c.due("BAD is named ahead of BIG: slack", x.without(100, 0), BAD);
    }
}
