/** Promises 10 to 13: lines, marks, fights, inks. */
public final class LinesTest {
    private static final Checks c = new Checks("LinesTest");
    private static final int BAD = OlderSkin.BAD, NOT = OlderSkin.NOT, FULL = OlderSkin.FULL;

    public static void main(String[] args) {
        linesCome();
        marksCome();
        marksFull();
        fights();
        leastWormOfAFight();
        inksAhead();
        ringsAndFirst();
        c.end();
    }

    private static void linesCome() {
        OlderSkin x = new OlderSkin();
        c.due("line without sheets", x.line(0, 0), BAD);
        x.sheet(1);
        c.due("line(0, -1)", x.line(0, -1), BAD);
        c.due("line(0, 6)", x.line(0, 6), BAD);
        c.due("line(-1, 0)", x.line(-1, 0), BAD);
        c.due("line(1, 0)", x.line(1, 0), BAD);
        for (int k = 0; k < 20; k++) {
            c.due("line " + k, x.line(0, k % 6), k);
        }
        c.due("21st", x.line(0, 0), FULL);
        c.due("21st, bad", x.line(0, 6), BAD);
        c.due("count(2)", x.count(2), 20);
    }

    private static void marksCome() {
        OlderSkin x = new OlderSkin();
        x.sheet(1);
        x.sheet(2);
        x.hole(0, 1);
        x.hole(1, 2);
        x.line(0, 0);
        x.line(1, 1);
        c.due("hole of another sheet", x.mark(1, 1), BAD);
        c.due("line of another sheet", x.mark(100, 1), BAD);
        c.due("no such line", x.mark(200, 1), BAD);
        c.due("no such hole", x.mark(2, 1), BAD);
        c.due("mark(-1, 1)", x.mark(-1, 1), BAD);
        c.due("mark(-100, 1)", x.mark(-100, 1), BAD);
        c.due("mark(0, 2)", x.mark(0, 2), BAD);
        c.due("mark(0, -1)", x.mark(0, -1), BAD);
        c.due("none came", x.count(3), 0);
        c.due("mark(0, 1)", x.mark(0, 1), 1);
        c.due("mark(101, 0)", x.mark(101, 0), 2);
        c.due("told otherwise", x.mark(0, 0), 2);
        c.due("ahead no more", x.inks(5, 1), 0);
        c.due("told back", x.mark(0, 1), 2);
        c.due("ahead again", x.inks(5, 1), 1);
        c.due("count(3)", x.count(3), 2);
    }

    private static void marksFull() {
        OlderSkin x = new OlderSkin();
        x.sheet(1);
        for (int k = 0; k < 40; k++) {
            x.hole(0, k);
        }
        x.line(0, 0);
        x.line(0, 1);
        for (int k = 0; k < 60; k++) {
            c.due("mark " + k, x.mark(k < 40 ? k : 100 + k - 40, k % 2), k + 1);
        }
        c.due("61st", x.mark(139, 0), FULL);
        c.due("61st, bad", x.mark(139, 2), BAD);
        c.due("told otherwise when full", x.mark(39, 0), 60);
        c.due("count(3)", x.count(3), 60);
    }

    /** Sheets 0 and 1; worm 0 at 10 through both, worm 1 at 50 through both, worm 2 at 90 in sheet 0. */
    private static OlderSkin twoSheets() {
        OlderSkin x = new OlderSkin();
        x.sheet(1);
        x.sheet(2);
        x.hole(0, 10);
        x.hole(1, 12);
        x.hole(0, 50);
        x.hole(1, 52);
        x.hole(0, 90);
        return x;
    }

    private static void fights() {
        OlderSkin x = twoSheets();
        c.due("fight(-1, 0)", x.fight(-1, 0), BAD);
        c.due("fight(100, 0)", x.fight(100, 0), BAD);
        c.due("fight(0, 2)", x.fight(0, 2), BAD);
        c.due("none", x.fight(2, 0), NOT);
        x.line(0, 3);
        x.line(1, 3);
        x.line(0, 4);
        x.mark(2, 1);
        c.due("over alone is none", x.fight(2, 0), NOT);
        x.mark(202, 0);
        c.due("another ink is none", x.fight(2, 0), NOT);
        x.mark(101, 0);
        c.due("another worm is none", x.fight(2, 0), NOT);
        x.mark(103, 0);
        c.due("the same ink round the other hole of the worm", x.fight(2, 0), 0);
        c.due("its worm", x.fight(2, 1), 1);
        c.due("less slack parts the worm", x.fight(1, 0), NOT);
        c.due("less slack, its worm", x.fight(1, 1), NOT);
    }

    private static void leastWormOfAFight() {
        OlderSkin x = twoSheets();
        x.line(0, 0);
        x.line(0, 0);
        x.line(1, 0);
        x.mark(102, 1);
        x.mark(100, 1);
        x.mark(203, 0);
        x.mark(201, 0);
        c.due("the first line that is over", x.fight(2, 0), 1);
        c.due("the least worm, not the first told", x.fight(2, 1), 0);
        x.mark(4, 1);
        c.due("a line that fights not is passed over", x.fight(2, 0), 1);
        x.mark(2, 1);
        c.due("the first line", x.fight(2, 0), 0);
        c.due("the first line's worm", x.fight(2, 1), 1);
        OlderSkin own = new OlderSkin();
        own.sheet(0);
        own.sheet(0);
        own.hole(0, 0);
        own.hole(0, 0);
        own.line(0, 5);
        own.mark(0, 1);
        own.mark(1, 0);
        c.due("two worms of one sheet", own.fight(99, 0), NOT);
    }

    private static void inksAhead() {
        OlderSkin x = twoSheets();
        x.line(0, 2);
        x.line(1, 5);
        c.due("inks(-1, 1)", x.inks(-1, 1), BAD);
        c.due("inks(100, -1)", x.inks(100, -1), BAD);
        c.due("inks(0, 11)", x.inks(0, 11), BAD);
        c.due("inks(0, 6)", x.inks(0, 6), BAD);
        c.due("inks(0, 60)", x.inks(0, 60), BAD);
        c.due("inks(0, -3)", x.inks(0, -3), BAD);
        c.due("inks(0, -12)", x.inks(0, -12), BAD);
        c.due("none told", x.inks(2, 25), 0);
        c.due("inks that no line has", x.inks(2, 1), 0);
        x.mark(0, 1);
        c.due("over alone", x.inks(2, 25), 0);
        x.mark(101, 0);
        c.due("over came first", x.inks(2, 25), 1);
        c.due("round came not", x.inks(2, 52), 0);
        c.due("by less slack", x.inks(1, 25), 0);
        c.due("first", x.inks(2, -1), 2);
        c.due("no ring", x.inks(2, -2), NOT);
        x.mark(103, 1);
        x.mark(2, 0);
        c.due("the other way too", x.inks(2, 52), 1);
        c.due("a ring", x.inks(2, -2), 25);
        c.due("none is first", x.inks(2, -1), NOT);
    }

    private static void ringsAndFirst() {
        OlderSkin x = new OlderSkin();
        c.due("no lines: first", x.inks(0, -1), NOT);
        c.due("no lines: ring", x.inks(0, -2), NOT);
        x.sheet(0);
        for (int k = 0; k < 8; k++) {
            x.hole(0, 100 * k);
        }
        x.line(0, 4);
        x.line(0, 1);
        x.line(0, 3);
        c.due("without marks the least that lines have", x.inks(0, -1), 1);
        x.mark(0, 1);
        x.mark(100, 0);
        c.due("4 ahead of 1", x.inks(0, -1), 3);
        x.mark(101, 1);
        x.mark(201, 0);
        c.due("1 ahead of 3", x.inks(0, -1), 4);
        x.mark(202, 1);
        x.mark(2, 0);
        c.due("all have one ahead", x.inks(0, -1), NOT);
        c.due("a ring of three is no pair", x.inks(0, -2), NOT);
        x.mark(203, 0);
        x.mark(3, 1);
        c.due("3 and 4", x.inks(0, -2), 34);
        x.mark(104, 1);
        x.mark(4, 0);
        c.due("1 and 4 is the least", x.inks(0, -2), 14);
        x.mark(5, 1);
        x.mark(5, 0);
        OlderSkin same = new OlderSkin();
        same.sheet(0);
        same.hole(0, 0);
        same.line(0, 2);
        same.line(0, 2);
        same.mark(0, 1);
        same.mark(100, 0);
        c.due("an ink is not ahead of itself", same.inks(0, -1), 2);
        c.due("nor in a ring with itself", same.inks(0, -2), NOT);
        c.due("but it fights", same.fight(0, 0), 0);
        manyInksOfOneWorm();
    }

    private static void manyInksOfOneWorm() {
        OlderSkin x = new OlderSkin();
        x.sheet(0);
        x.hole(0, 0);
        x.hole(0, 200);
        for (int ink = 0; ink < 6; ink++) {
            x.line(0, ink);
        }
        x.mark(500, 1);
        x.mark(400, 1);
        x.mark(0, 0);
        x.mark(100, 0);
        int[] ahead = {50, 40, 51, 41};
        for (int ij : ahead) {
            c.due("ahead " + ij, x.inks(0, ij), 1);
        }
        x.mark(301, 1);
        x.mark(1, 0);
        c.due("by another worm too", x.inks(0, 30), 1);
        c.due("the first worm's stay", x.inks(0, 50), 1);
        c.due("54: both over", x.inks(0, 54), 0);
        x.mark(1, 1);
        x.mark(501, 0);
        c.due("a ring of 0 and 5", x.inks(0, -2), 5);
        OlderSkin first = new OlderSkin();
        first.sheet(0);
        first.hole(0, 0);
        first.hole(0, 200);
        first.hole(0, 400);
        first.line(0, 0);
        first.line(0, 0);
        first.mark(0, 1);
        first.mark(2, 1);
        first.mark(100, 0);
        first.mark(102, 0);
        c.due("ink 0 is first", first.inks(0, -1), 0);
        c.due("the least worm, though told ahead", first.fight(0, 1), 0);
    }
}
