/** Boundary cases of promises 10 to 13, each with the words of the document that name it. */
public final class LinesEdgesTest {
    private static final Checks c = new Checks("LinesEdgesTest");
    private static final int BAD = OlderSkin.BAD, NOT = OlderSkin.NOT, FULL = OlderSkin.FULL;

    public static void main(String[] args) {
        linesAsTheyCome();
        marksOfLinesAndHoles();
        marksToldOtherwise();
        sixtyMarks();
        allSixtyCount();
        fightsThatAreNone();
        theFirstLineAndLeastWorm();
        pairsOfInks();
        inksAheadOfOthers();
        firstOfThose();
        ringsOfTwo();
        c.end();
    }

    /** Sheets 0 and 1, each with a hole in worms 0 (at 0), 1 (at 100) and 2 (at 200), by slack 0 to 99. */
    private static OlderSkin threeWorms() {
        OlderSkin x = new OlderSkin();
        x.sheet(0);
        x.sheet(0);
        for (int k = 0; k < 3; k++) {
            x.hole(0, 100 * k);
            x.hole(1, 100 * k);
        }
        return x;
    }

    private static OlderSkin oneSheet() {
        OlderSkin x = new OlderSkin();
        x.sheet(0);
        return x;
    }

    private static void linesAsTheyCome() {
        c.says("10: LINES 0 .. 19, as they come");
        OlderSkin x = oneSheet();
        for (int k = 0; k <= 19; k++) {
            c.due("line", x.line(0, k % 6), k);
        }
        c.due("a twentieth number is not there", x.line(0, 0), FULL);
        c.due("count(2)", x.count(2), 20);
        c.due("BAD is named ahead of FULL: the sheet", x.line(1, 0), BAD);
        c.due("BAD is named ahead of FULL: the ink", x.line(0, 6), BAD);
        c.says("10: on a SHEET, with an INK (0 .. 5)");
        c.due("without sheets", new OlderSkin().line(0, 0), BAD);
        c.range("line(sheet, 0) of two", 0, 1, BAD, v -> threeWorms().line(v, 0));
        c.range("line(0, ink)", 0, 5, BAD, v -> oneSheet().line(0, v));
    }

    private static void marksOfLinesAndHoles() {
        c.says("11: lh: 100 times the LINE, and the HOLE. BAD (the HOLE is of another SHEET)");
        OlderSkin x = threeWorms();
        x.line(0, 0);
        x.line(1, 0);
        x.line(0, 0);
        int marks = 0;
        for (int k = -140; k <= 260; k++) {
            // twenty numbers about each hundred
            int lh = 100 * Math.floorDiv(k, 40) + Math.floorMod(k, 40) - 20;
            int line = lh / 100;
            int hole = lh % 100;
            boolean so = lh >= 0 && line < 3 && hole < 6 && hole % 2 == line % 2;
            marks += so ? 1 : 0;
            c.due("mark(" + lh + ", 0)", x.mark(lh, 0), so ? marks : BAD);
        }
        c.due("all that are so", x.count(3), 9);
        c.due("the greatest int", x.mark(Integer.MAX_VALUE, 0), BAD);
        c.due("the least int", x.mark(Integer.MIN_VALUE, 0), BAD);
        c.says("11: over 1, 0");
        c.range("mark(0, over)", 0, 1, BAD, v -> x.mark(0, v));
        c.says("11: of a HOLE of its SHEET");
        OlderSkin bare = oneSheet();
        c.due("no lines", bare.mark(0, 0), BAD);
        bare.line(0, 0);
        c.due("no holes", bare.mark(0, 0), BAD);
        bare.hole(0, 0);
        c.due("both", bare.mark(0, 0), 1);
        c.says("11: LINES 0 .. 19, HOLES 0 .. 39");
        OlderSkin last = oneSheet();
        for (int k = 0; k < 40; k++) {
            last.hole(0, k);
        }
        for (int k = 0; k < 20; k++) {
            last.line(0, 0);
        }
        c.due("the last of both", last.mark(1939, 1), 1);
        c.due("a hole behind them", last.mark(1940, 1), BAD);
        c.due("a line behind them", last.mark(2000, 1), BAD);
        c.due("the last hole number that fits", last.mark(1999, 1), BAD);
    }

    private static void marksToldOtherwise() {
        c.says("11: is told, or told otherwise: how many MARKS there are");
        OlderSkin x = threeWorms();
        x.line(0, 0);
        x.line(1, 1);
        c.due("told", x.mark(0, 1), 1);
        c.due("told once more", x.mark(0, 1), 1);
        c.due("another", x.mark(101, 0), 2);
        c.due("over came first", x.inks(0, 1), 1);
        c.due("told otherwise", x.mark(0, 0), 2);
        c.due("both are round now", x.inks(0, 1), 0);
        c.due("told otherwise", x.mark(101, 1), 2);
        c.due("the other came first", x.inks(0, 10), 1);
        c.due("refused", x.mark(101, 2), BAD);
        c.due("what is refused tells nothing", x.inks(0, 10), 1);
        c.due("nor brings one", x.count(3), 2);
    }

    private static void sixtyMarks() {
        c.says("11: FULL: 60");
        OlderSkin x = oneSheet();
        for (int k = 0; k < 40; k++) {
            x.hole(0, 0);
        }
        x.line(0, 0);
        x.line(0, 1);
        for (int k = 0; k < 60; k++) {
            c.due("mark", x.mark(100 * (k / 30) + k % 30, 1), k + 1);
        }
        c.due("one more", x.mark(130, 1), FULL);
        c.due("count(3)", x.count(3), 60);
        c.due("BAD is named ahead of FULL: over", x.mark(130, 2), BAD);
        c.due("BAD is named ahead of FULL: the hole", x.mark(140, 1), BAD);
        c.due("BAD is named ahead of FULL: the line", x.mark(200, 1), BAD);
        c.due("the first, told otherwise", x.mark(0, 0), 60);
        c.due("the last, told otherwise", x.mark(129, 0), 60);
        c.due("it counts", x.inks(0, 10), 1);
        c.due("one more still", x.mark(131, 0), FULL);
    }

    private static void allSixtyCount() {
        c.says("11, 12, 13: 60 MARKS, 20 LINES");
        OlderSkin x = oneSheet();
        x.sheet(0);
        for (int k = 0; k < 40; k++) {
            x.hole(k / 20, 7 * (k % 20));
        }
        for (int k = 0; k < 20; k++) {
            x.line(k / 10, k % 5);
        }
        for (int k = 0; k < 59; k++) {
            c.due("round", x.mark(100 * (k / 12) + k % 12, 0), k + 1);
        }
        c.due("no fight among 59", x.fight(0, 0), NOT);
        c.due("the last of 60 is over", x.mark(1939, 1), 60);
        c.due("ink 4 is round in worm 11 at the most", x.fight(0, 0), NOT);
        c.due("no ink came first by it", x.inks(0, 40), 0);
        c.due("one more", x.mark(411, 0), FULL);
        OlderSkin y = oneSheet();
        y.sheet(0);
        for (int k = 0; k < 40; k++) {
            y.hole(k / 20, 7 * (k % 20));
        }
        for (int k = 0; k < 20; k++) {
            y.line(k / 10, k % 5);
        }
        for (int k = 0; k < 59; k++) {
            y.mark(100 * (k / 15) + k % 15, 0);
        }
        c.due("the last of 60 is over", y.mark(1820, 1), 60);
        c.due("the fight of line 18, ink 3, over worm 0", y.fight(0, 0), 18);
        c.due("worm 0", y.fight(0, 1), 0);
        c.due("ink 3 came ahead of ink 0", y.inks(0, 30), 1);
        c.due("and no other way about", y.inks(0, 3), 0);
        c.due("FIRST: the least that none came ahead of", y.inks(0, -1), 3);
    }

    private static void fightsThatAreNone() {
        c.says("12: BAD; NOT: none");
        OlderSkin x = threeWorms();
        c.due("no lines: the line", x.fight(0, 0), NOT);
        c.due("no lines: the worm", x.fight(0, 1), NOT);
        x.line(0, 2);
        x.line(1, 2);
        c.due("no marks", x.fight(0, 0), NOT);
        x.mark(0, 1);
        x.mark(101, 1);
        c.due("both over", x.fight(0, 0), NOT);
        x.mark(0, 0);
        x.mark(101, 0);
        c.due("both round", x.fight(0, 0), NOT);
        x.mark(101, 1);
        c.due("a fight", x.fight(0, 0), 1);
        c.range("fight(0, what)", 0, 1, BAD, v -> x.fight(0, v));
        c.due("BAD is named ahead of NOT: what", threeWorms().fight(0, 2), BAD);
        c.due("BAD is named ahead of NOT: slack", threeWorms().fight(100, 0), BAD);
        c.says("12: of a WORM of which some LINE of the same INK is ROUND a HOLE");
        OlderSkin self = threeWorms();
        self.line(0, 5);
        self.mark(0, 1);
        self.mark(2, 0);
        c.due("one line, two worms", self.fight(99, 0), NOT);
        OlderSkin own = new OlderSkin();
        own.sheet(0);
        own.sheet(0);
        own.hole(0, 0);
        own.hole(1, 5);
        own.line(0, 0);
        own.line(1, 0);
        own.mark(0, 1);
        own.mark(101, 0);
        c.due("as far off as SLACK", own.fight(5, 0), 0);
        c.due("farther off than SLACK", own.fight(4, 0), NOT);
    }

    private static void theFirstLineAndLeastWorm() {
        c.says("12: the first LINE that is OVER a HOLE; the least such WORM");
        OlderSkin x = threeWorms();
        for (int k = 0; k < 4; k++) {
            x.line(k % 2, 3);
        }
        x.mark(304, 1);
        c.due("a hole of another sheet tells nothing", x.count(3), 0);
        x.mark(305, 1);
        x.mark(303, 1);
        x.mark(204, 0);
        c.due("line 3", x.fight(0, 0), 3);
        c.due("in worm 2 alone", x.fight(0, 1), 2);
        x.mark(202, 0);
        c.due("in worm 1 too", x.fight(0, 1), 1);
        x.mark(105, 1);
        c.due("line 1 is ahead of it", x.fight(0, 0), 1);
        c.due("its own least worm", x.fight(0, 1), 2);
        x.mark(0, 0);
        c.due("line 0 is round alone", x.fight(0, 0), 1);
        x.mark(4, 1);
        c.due("line 0", x.fight(0, 0), 0);
        OlderSkin told = threeWorms();
        told.line(0, 1);
        told.line(1, 1);
        told.mark(0, 1);
        told.mark(4, 1);
        told.mark(101, 0);
        told.mark(105, 0);
        c.due("worm 0, though worm 2 was told behind it", told.fight(0, 1), 0);
        told.mark(101, 1);
        c.due("both are over worm 0: worm 2 is left", told.fight(0, 1), 2);
        told.mark(2, 1);
        told.mark(103, 0);
        c.due("worm 1, told behind worm 2", told.fight(0, 1), 1);
        OlderSkin inOrder = threeWorms();
        inOrder.line(0, 1);
        inOrder.line(1, 1);
        inOrder.mark(2, 1);
        inOrder.mark(4, 1);
        inOrder.mark(103, 0);
        inOrder.mark(105, 0);
        c.due("worm 1, told ahead of worm 2", inOrder.fight(0, 1), 1);
        OlderSkin forty = oneSheet();
        forty.line(0, 4);
        forty.line(0, 4);
        for (int k = 0; k < 40; k++) {
            forty.hole(0, 0);
        }
        forty.mark(39, 1);
        forty.mark(139, 0);
        c.due("the last of forty worms", forty.fight(0, 1), 39);
    }

    private static void pairsOfInks() {
        c.says("13: ij: 10 times the one and the other: 1, 0; -1: FIRST; -2: RING. BAD (one and the same).");
        OlderSkin x = new OlderSkin();
        for (int ij = -130; ij <= 130; ij++) {
            boolean so = ij >= 0 && ij / 10 <= 5 && ij % 10 <= 5 && ij / 10 != ij % 10;
            int due = ij == -1 || ij == -2 ? NOT : so ? 0 : BAD;
            c.due("inks(0, " + ij + ")", x.inks(0, ij), due);
        }
        c.due("the greatest int", x.inks(0, Integer.MAX_VALUE), BAD);
        c.due("the least int", x.inks(0, Integer.MIN_VALUE), BAD);
    }

    private static void inksAheadOfOthers() {
        c.says("13: a LINE of the one is OVER and a LINE of the other one is ROUND a HOLE of it");
        for (int one = 0; one <= 5; one++) {
            for (int other = 0; other <= 5; other++) {
                OlderSkin x = threeWorms();
                x.line(0, one);
                x.line(1, other);
                x.mark(4, 1);
                x.mark(105, 0);
                if (one != other) {
                    c.due(one + " ahead of " + other, x.inks(0, 10 * one + other), 1);
                    c.due(other + " not ahead of " + one, x.inks(0, 10 * other + one), 0);
                    c.due("FIRST is " + one, x.inks(0, -1), one);
                } else {
                    c.due("one and the same", x.inks(0, 11 * one), BAD);
                    c.due("none came ahead of it", x.inks(0, -1), one);
                }
                c.due("no RING", x.inks(0, -2), NOT);
            }
        }
        OlderSkin apart = threeWorms();
        apart.line(0, 0);
        apart.line(1, 1);
        apart.mark(0, 1);
        apart.mark(103, 0);
        c.due("holes of two worms", apart.inks(99, 1), 0);
    }

    private static void firstOfThose() {
        c.says("13: FIRST: none came ahead of it (of those that LINES have; the least); NOT: none");
        OlderSkin x = threeWorms();
        c.due("no lines", x.inks(0, -1), NOT);
        x.line(0, 5);
        c.due("the only ink, without marks", x.inks(0, -1), 5);
        x.line(1, 4);
        c.due("the least of two", x.inks(0, -1), 4);
        x.mark(0, 1);
        x.mark(101, 0);
        c.due("5 came ahead of 4", x.inks(0, -1), 5);
        x.mark(103, 1);
        x.mark(2, 0);
        c.due("each has one ahead", x.inks(0, -1), NOT);
        x.line(0, 5);
        c.due("a further line of such an ink", x.inks(0, -1), NOT);
        x.line(0, 0);
        c.due("an ink without marks", x.inks(0, -1), 0);
    }

    private static void ringsOfTwo() {
        c.says("13: RING: the least pair (10 times the one and the other); NOT: none");
        OlderSkin x = threeWorms();
        for (int k = 0; k < 6; k++) {
            x.line(k % 2, k);
        }
        c.due("without marks", x.inks(0, -2), NOT);
        x.mark(501, 1);
        x.mark(400, 0);
        c.due("one way alone", x.inks(0, -2), NOT);
        x.mark(402, 1);
        x.mark(503, 0);
        c.due("both ways", x.inks(0, -2), 45);
        x.mark(303, 1);
        x.mark(305, 0);
        c.due("3 is over worm 1, where 5 is round; 5 is over none of 3", x.inks(0, -2), 45);
        x.mark(402, 0);
        c.due("4 over 5 is taken back", x.inks(0, -2), NOT);
        x.mark(505, 1);
        c.due("3 and 5 by worms 1 and 2", x.inks(0, -2), 35);
        x.mark(0, 1);
        x.mark(2, 1);
        x.mark(4, 0);
        c.due("0 and 5 are less", x.inks(0, -2), 5);
    }
}
