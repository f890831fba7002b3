/** Promises 1 to 9: a new object, sheets, holes, worms, orders. */
public final class SheetsTest {
    private static final Checks c = new Checks("SheetsTest");
    private static final int BAD = OlderSkin.BAD, NOT = OlderSkin.NOT, FULL = OlderSkin.FULL, BIG = OlderSkin.BIG;

    public static void main(String[] args) {
        newObject();
        sheetsAndAges();
        holes();
        wormsByPlace();
        wormsByTies();
        wormsBySlack();
        ordersCounted();
        ordersOfMany();
        sides();
        sidesOfSix();
        withoutOne();
        fortyWorms();
        c.end();
    }

    private static void newObject() {
        OlderSkin x = new OlderSkin();
        for (int what = 0; what <= 11; what++) {
            c.due("new: count(" + what + ")", x.count(what), 0);
        }
        c.due("new: trace(0)", x.trace(0), BAD);
        c.due("new: undo()", x.undo(), OlderSkin.STATE);
        c.due("new: redo()", x.redo(), OlderSkin.STATE);
        c.due("new: taken(0, 0)", x.taken(0, 0), -11);
        c.due("new: mean(50)", x.mean(50), NOT);
        c.due("new: made(5, 5)", x.made(5, 5), 2001);
    }

    private static OlderSkin withSheets(int n) {
        OlderSkin x = new OlderSkin();
        for (int k = 0; k < n; k++) {
            x.sheet(1000 + k);
        }
        return x;
    }

    private static void sheetsAndAges() {
        OlderSkin x = new OlderSkin();
        c.due("sheet(-1)", x.sheet(-1), BAD);
        c.due("sheet(2001)", x.sheet(2001), BAD);
        c.due("count after BAD", x.count(0), 0);
        for (int k = 0; k < 8; k++) {
            c.due("sheet " + k, x.sheet(k == 0 ? 0 : 2000), k);
        }
        c.due("ninth sheet", x.sheet(5), FULL);
        c.due("ninth sheet, bad", x.sheet(2001), BAD);
        c.due("count(0)", x.count(0), 8);
        c.due("age(8, 1)", x.age(8, 1), BAD);
        c.due("age(-1, 1)", x.age(-1, 1), BAD);
        c.due("age(0, -1)", x.age(0, -1), BAD);
        c.due("age(0, 2001)", x.age(0, 2001), BAD);
        c.due("age(0, 2000)", x.age(0, 2000), 0);
        c.due("age(0, 7)", x.age(0, 7), 2000);
        c.due("age(0, 7) again", x.age(0, 7), 7);
        c.due("changes", x.count(9), 2);
    }

    private static void holes() {
        OlderSkin x = withSheets(2);
        c.due("hole(2, 0)", x.hole(2, 0), BAD);
        c.due("hole(-1, 0)", x.hole(-1, 0), BAD);
        c.due("hole(0, -1)", x.hole(0, -1), BAD);
        c.due("hole(0, 1000)", x.hole(0, 1000), BAD);
        for (int k = 0; k < 40; k++) {
            c.due("hole " + k, x.hole(k % 2, 999 - k), k);
        }
        c.due("41st hole", x.hole(0, 0), FULL);
        c.due("41st hole, bad", x.hole(2, 0), BAD);
        c.due("count(1)", x.count(1), 40);
        c.due("all in pairs", x.worms(1, -1), 20);
        c.due("led of the last", x.led(39, 1), 0);
        c.due("led of the first", x.led(0, 1), 19);
        c.due("led of hole 37", x.led(37, 1), 1);
    }

    private static void wormsByPlace() {
        OlderSkin x = withSheets(4);
        x.hole(2, 50);
        x.hole(0, 10);
        x.hole(1, 15);
        x.hole(3, 20);
        c.due("a chain of gaps within slack is one worm", x.worms(5, 0), 0b1011);
        c.due("the one farther off", x.worms(5, 1), 0b0100);
        c.due("how many", x.worms(5, -1), 2);
        c.due("slack one less parts them", x.worms(4, -1), 4);
        c.due("all by slack 30", x.worms(30, 0), 15);
        c.due("by slack 29", x.worms(29, -1), 2);
        c.due("worms(5, 2)", x.worms(5, 2), BAD);
        c.due("worms(5, -2)", x.worms(5, -2), BAD);
        c.due("worms(-1, -1)", x.worms(-1, -1), BAD);
        c.due("worms(100, -1)", x.worms(100, -1), BAD);
        c.due("worms(99, -1)", x.worms(99, -1), 1);
        c.due("led(0, 5)", x.led(0, 5), 1);
        c.due("led(3, 5)", x.led(3, 5), 0);
        c.due("led(4, 5)", x.led(4, 5), BAD);
        c.due("led(-1, 5)", x.led(-1, 5), BAD);
        c.due("led(0, 100)", x.led(0, 100), BAD);
        c.due("led(0, -1)", x.led(0, -1), BAD);
    }

    private static void wormsByTies() {
        OlderSkin x = withSheets(3);
        x.hole(1, 7);
        x.hole(0, 7);
        x.hole(1, 7);
        x.hole(2, 7);
        c.due("a sheet's second hole begins a new worm", x.worms(0, -1), 2);
        c.due("the first", x.worms(0, 0), 0b011);
        c.due("the second", x.worms(0, 1), 0b110);
        c.due("like places go by numbers", x.led(1, 0), 0);
        c.due("behind the second of its sheet", x.led(3, 0), 1);
    }

    private static void wormsBySlack() {
        OlderSkin x = withSheets(2);
        x.hole(0, 100);
        x.hole(0, 103);
        x.hole(1, 104);
        c.due("gaps go to the hole ahead, not to the worm's first", x.worms(1, -1), 2);
        c.due("first alone", x.worms(3, 0), 1);
        c.due("second with the third", x.worms(3, 1), 3);
    }

    private static void ordersCounted() {
        OlderSkin x = new OlderSkin();
        c.due("orders(-1, 0)", x.orders(-1, 0), BAD);
        c.due("orders(100, 0)", x.orders(100, 0), BAD);
        c.due("orders(0, 2)", x.orders(0, 2), BAD);
        c.due("orders(0, -1)", x.orders(0, -1), BAD);
        c.due("none: how many", x.orders(0, 0), 1);
        c.due("none: the first", x.orders(0, 1), 0);
        x.sheet(1);
        c.due("one sheet", x.orders(0, 0), 1);
        c.due("one sheet: the first", x.orders(0, 1), 1);
        x.sheet(1);
        x.sheet(1);
        c.due("three: an order and the one turned about are two", x.orders(0, 0), 6);
        x.hole(0, 10);
        x.hole(2, 10);
        c.due("0 with 2", x.orders(0, 0), 4);
        c.due("0 with 2: the first", x.orders(0, 1), 132);
        x.hole(1, 50);
        x.hole(2, 50);
        c.due("a chain", x.orders(0, 0), 2);
        c.due("a chain: the first", x.orders(0, 1), 132);
        x.hole(0, 90);
        x.hole(1, 90);
        c.due("a ring of three lets none", x.orders(0, 0), 0);
        c.due("a ring of three: the first", x.orders(0, 1), NOT);
        c.due("a ring of three: side", x.side(0, 1, 0), NOT);
    }

    private static void ordersOfMany() {
        OlderSkin x = withSheets(6);
        c.due("six", x.orders(0, 0), 720);
        c.due("six: the first", x.orders(0, 1), 123456);
        x.hole(5, 1);
        x.hole(1, 1);
        x.hole(3, 1);
        c.due("three of six together", x.orders(0, 0), 6 * 24);
        c.due("three of six: the first", x.orders(0, 1), 124635);
        x.sheet(0);
        c.due("seven", x.orders(0, 0), BIG);
        c.due("seven: the first", x.orders(0, 1), BIG);
        c.due("seven: BAD goes first", x.orders(0, 2), BAD);
    }

    private static void sides() {
        OlderSkin x = withSheets(4);
        x.hole(0, 1);
        x.hole(1, 1);
        x.hole(1, 20);
        x.hole(2, 20);
        c.due("0 1 sure", x.side(0, 1, 0), 1);
        c.due("1 0 sure", x.side(0, 10, 0), 1);
        c.due("1 2 sure", x.side(0, 12, 0), 1);
        c.due("0 2 not", x.side(0, 2, 0), 0);
        c.due("0 2 never", x.side(0, 2, 1), 0);
        c.due("0 3 not sure", x.side(0, 3, 0), 0);
        c.due("0 3 may", x.side(0, 3, 1), 1);
        c.due("3 1 never", x.side(0, 31, 1), 0);
        c.due("0 1 may", x.side(0, 1, 1), 1);
        c.due("one and the same", x.side(0, 22, 0), BAD);
        c.due("side(0, 4, 0)", x.side(0, 4, 0), BAD);
        c.due("side(0, 40, 0)", x.side(0, 40, 0), BAD);
        c.due("side(0, -1, 0)", x.side(0, -1, 0), BAD);
        c.due("side(0, -12, 0)", x.side(0, -12, 0), BAD);
        c.due("side(0, 1, 2)", x.side(0, 1, 2), BAD);
        c.due("side(100, 1, 0)", x.side(100, 1, 0), BAD);
        for (int k = 4; k < 7; k++) {
            x.sheet(0);
        }
        c.due("seven", x.side(0, 1, 0), BIG);
        c.due("seven, one and the same", x.side(0, 11, 0), BAD);
    }

    private static void sidesOfSix() {
        OlderSkin x = withSheets(6);
        for (int k = 0; k < 5; k++) {
            x.hole(k, 100 * k);
            x.hole(k + 1, 100 * k);
        }
        c.due("a chain of six", x.orders(0, 0), 2);
        c.due("4 5 sure", x.side(0, 45, 0), 1);
        c.due("5 4 sure", x.side(0, 54, 0), 1);
        c.due("3 5 never", x.side(0, 35, 1), 0);
        c.due("5 5", x.side(0, 55, 1), BAD);
        OlderSkin one = withSheets(3);
        one.hole(0, 0);
        one.hole(2, 0);
        one.hole(1, 500);
        one.hole(2, 500);
        c.due("1 2 in both orders", one.side(0, 12, 0), 1);
        OlderSkin once = withSheets(6);
        once.hole(0, 0);
        once.hole(1, 0);
        once.hole(2, 300);
        once.hole(3, 300);
        c.due("1 2 in some", once.side(0, 12, 1), 1);
        c.due("1 2 not in all", once.side(0, 12, 0), 0);
    }

    private static void fortyWorms() {
        OlderSkin x = withSheets(8);
        for (int k = 0; k < 40; k++) {
            x.hole(7, 20 * k);
        }
        c.due("forty worms", x.worms(0, -1), 40);
        c.due("the last one", x.worms(0, 39), 128);
        c.due("none behind it", x.worms(0, 40), BAD);
        c.due("led to the last", x.led(39, 99), 39);
        x.line(7, 3);
        x.line(7, 4);
        x.mark(39, 1);
        x.mark(139, 0);
        c.due("inks by the last worm", x.inks(0, 34), 1);
        c.due("first by it", x.inks(0, -1), 3);
        x.line(7, 3);
        x.mark(239, 0);
        c.due("a fight in the last worm", x.fight(0, 1), 39);
    }

    private static void withoutOne() {
        OlderSkin x = withSheets(3);
        x.hole(0, 10);
        x.hole(1, 15);
        x.hole(2, 20);
        c.due("worms are found anew", x.without(5, 1), 2);
        x.hole(1, 500);
        x.hole(0, 501);
        x.hole(1, 502);
        x.hole(2, 503);
        c.due("with", x.orders(5, 0), 2);
        c.due("without 1: one worm of what were two", x.without(5, 1), 2);
        c.due("without(5, 3)", x.without(5, 3), BAD);
        c.due("without(5, -1)", x.without(5, -1), BAD);
        c.due("without(100, 0)", x.without(100, 0), BAD);
        c.due("without(-1, 0)", x.without(-1, 0), BAD);
        OlderSkin one = withSheets(1);
        c.due("without the only one", one.without(0, 0), 1);
        OlderSkin split = withSheets(4);
        split.hole(0, 0);
        split.hole(1, 5);
        split.hole(2, 10);
        split.hole(3, 10);
        c.due("a gap that the sheet bridged", split.without(5, 1), 4);
        c.due("an end taken away", split.without(5, 0), 6);
        OlderSkin many = withSheets(7);
        c.due("six are left", many.without(0, 3), 720);
        many.sheet(0);
        c.due("seven are left", many.without(0, 3), BIG);
        c.due("seven are left, no such sheet", many.without(0, 8), BAD);
    }
}
