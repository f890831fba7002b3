/** Promises 30 to 37: the tape, stories, odds, the dot to try next, changes undone and done again. */
public final class StoriesTest {
    private static final Checks c = new Checks("StoriesTest");
    private static final int BAD = OlderSkin.BAD, NOT = OlderSkin.NOT, FULL = OlderSkin.FULL, STATE = OlderSkin.STATE;

    public static void main(String[] args) {
        theTape();
        longTexts();
        storiesCome();
        faults();
        values();
        names();
        priorsAndOdds();
        bestOne();
        nextDot();
        nextRefused();
        undone();
        fortyAreKept();
        fortyOfAllSorts();
        c.end();
    }

    private static void theTape() {
        OlderSkin x = new OlderSkin();
        c.due("feed(0, 0)", x.feed(0, 0), BAD);
        c.due("feed(5, 0)", x.feed(5, 0), BAD);
        c.due("feed(-1, 0)", x.feed(-1, 0), BAD);
        c.due("feed(2, ..)", x.feed(2, '1' | '+' << 8 | '9' << 16), 2);
        c.due("feed(1, ..)", x.feed(1, '2'), 3);
        c.due("count(7)", x.count(7), 3);
        c.due("BAD keeps it", x.story(0, 0), BAD);
        c.due("count(7) then", x.count(7), 3);
        c.due("story", x.story(0, 1), 0);
        c.due("the lowest came first", x.odds(0, 0), 3);
        c.due("empty then", x.count(7), 0);
        c.due("a high byte", x.feed(4, 0xF1000000 | '1' | '+' << 8 | '1' << 16), 4);
        c.due("its fault", x.story(0, 1), -103);
        c.due("empty after a fault", x.count(7), 0);
    }

    private static void longTexts() {
        OlderSkin x = new OlderSkin();
        StringBuilder text = new StringBuilder("7");
        for (int k = 0; k < 300; k++) {
            text.append("+1");
        }
        c.due("601 bytes", Checks.feed(x, text.toString()), 601);
        c.due("a long text", x.story(0, 1), 0);
        c.due("its weight", x.odds(0, 0), 307);
        StringBuilder lines = new StringBuilder("0?1");
        for (int k = 0; k < 100; k++) {
            lines.append(";0?2");
        }
        lines.append(";9");
        c.due("many lines", Checks.story(x, lines.toString(), 0, 1), 1);
        c.due("the last counts", x.odds(1, 0), 9);
        c.due("the first is as it was", x.odds(0, 0), 307);
    }

    private static void storiesCome() {
        OlderSkin x = new OlderSkin();
        Checks.feed(x, "1");
        c.due("story(-1, 1)", x.story(-1, 1), BAD);
        c.due("story(2001, 1)", x.story(2001, 1), BAD);
        c.due("story(0, 0)", x.story(0, 0), BAD);
        c.due("story(0, 100)", x.story(0, 100), BAD);
        c.due("the tape stays", x.count(7), 1);
        c.due("story(2000, 99)", x.story(2000, 99), 0);
        for (int k = 1; k < 6; k++) {
            c.due("story " + k, Checks.story(x, "1", 0, 1), k);
        }
        Checks.feed(x, "??");
        c.due("seventh", x.story(0, 1), FULL);
        c.due("the tape stays when full", x.count(7), 2);
        c.due("seventh, bad", x.story(0, 0), BAD);
        c.due("count(8)", x.count(8), 6);
    }

    private static void fault(String text, int place) {
        OlderSkin x = new OlderSkin();
        c.due("fault of '" + text + "'", Checks.story(x, text, 0, 1), -100 - place);
        c.due("no story by '" + text + "'", x.count(8), 0);
    }

    private static void faults() {
        fault("", 0);
        fault(" 1", 0);
        fault("1 ", 1);
        fault("c", 0);
        fault("O", 0);
        fault("1;", 2);
        fault("1;;1", 2);
        fault(";", 0);
        fault("?1", 0);
        fault("1?", 2);
        fault("1?2|", 4);
        fault("1?-------2", 8);
        fault("0?!!!!!!1;q", 10);
        fault("1?2?3", 3);
        fault("(1?2)", 2);
        fault("(1;2)", 2);
        fault("(1", 2);
        fault("1)", 1);
        fault("()", 1);
        fault("1+", 2);
        fault("1++1", 2);
        fault("1<2<3", 3);
        fault("1<2=3", 3);
        fault("1=2&3>4>5", 7);
        fault("(1<2<3)", 4);
        fault("1<", 2);
        fault("1|", 2);
        fault("1||1", 2);
        fault("1&&1", 2);
        fault("+1", 0);
        fault("*1", 0);
        fault("12345", 4);
        fault("00000", 4);
        fault("12o", 2);
        fault("o1", 1);
        fault("oo", 1);
        fault("1(2)", 1);
        fault("1!2", 1);
        fault("(1)2", 3);
        fault("1?2;3?4;5?6;q", 12);
        fault("!", 1);
        fault("-", 1);
        fault("!!!!!!!1", 6);
        fault("-------1", 6);
        fault("(((((((1", 6);
        fault("(((1+((-(1", 8);
        fault("!(!(!(-1", 6);
        fault("((((((1)))))", 12);
        fault("((((((1)))))))", 13);
        fault("1--------1", 8);
        fault("\u00ff", 0);
        fault("1\u00b1", 1);
    }

    private static void value(String text, int want) {
        OlderSkin x = new OlderSkin();
        c.due("story '" + text + "'", Checks.story(x, text, 0, 1), 0);
        c.due("weight of '" + text + "'", x.odds(0, 0), want);
    }

    private static void values() {
        value("0", 0);
        value("0007", 7);
        value("9999", 9999);
        value("9999+1", 9999);
        value("0-5", 0);
        value("-5+9", 4);
        value("--5", 5);
        value("9-3-2", 4);
        value("9--3", 12);
        value("2+3*4", 14);
        value("2*3+4", 10);
        value("(2+3)*4", 20);
        value("100/7*2", 28);
        value("100%7*2", 4);
        value("100*2%7", 4);
        value("7/0", 0);
        value("7%0", 0);
        value("5+7/(3-3)", 5);
        value("-7/2+10", 7);
        value("-7%4+10", 7);
        value("7/-2+10", 7);
        value("7%-4", 3);
        value("!0", 1);
        value("!7", 0);
        value("!!7", 1);
        value("-!0+5", 4);
        value("!-1", 0);
        value("!0*5", 5);
        value("-2*-3", 6);
        value("2|4", 1);
        value("0|0", 0);
        value("2&4", 1);
        value("2&0", 0);
        value("1|1&0", 1);
        value("(1|1)&0", 0);
        value("0&1|1", 1);
        value("3<4", 1);
        value("4<4", 0);
        value("4=4", 1);
        value("4>4", 0);
        value("5>4", 1);
        value("5>-4", 1);
        value("1+1<3&2*2=4", 1);
        value("1<2+(3<2)", 1);
        value("(1<2)+(2<3)", 2);
        value("((((((9))))))", 9);
        value("!!!!!!0", 0);
        value("------9", 9);
        value("(!(!(!0)))", 1);
        value("(1)-(2)+((((((8))))))", 7);
        value("!0+!0+!0+!0+!0+!0+!0+!0", 8);
        value("9-------2", 7);
        value("9999*9999*9999/1000/1000", Math.max(0, 9999 * 9999 * 9999 / 1000 / 1000));
        value("9999*9999*30/1000/1000", 0);
        value("9999*9999*21/1000/1000", 2099);
        value("0-(9999*9999*30/1000/1000)", 1295);
        value("0-(9999*9999*30/1000)", 9999);
        value("(9999*9999*21+9999*4764+5591)/1000/1000", 2147);
        value("(0-4096*4096*128)/-1/1000/1000", 0);
        value("0-(0-4096*4096*128)/-1/1000/1000", 2147);
        value("(0-4096*4096*128)%-1+3", 3);
        value("1?5", 5);
        value("1?0|5", 1);
        value("1?((((((5))))))", 5);
        value("0|0?5;0|3?4", 4);
        value("0?5", 0);
        value("0?5;6", 6);
        value("3?5;6", 5);
        value("-1?5;6", 5);
        value("0?5;0?6", 0);
        value("7;8", 7);
        value("0;8", 0);
        value("0?5;1?0;8", 0);
        value("0?1;0?2;0?3;4", 4);
        value("1<2?(3>2)*50;9", 50);
        value("1+(2+(3+(4+(5+(6*2)))))", 27);
        value("1|0&1<1+1*(1|0&1<1+1*(1|0&1<1+1*(1|0&1<1+1*(1|0&1<1+1*(1|0&1<1+1*(1|0&1<1+1*2))))))", 1);
    }

    private static int weight(OlderSkin x, String text, int year) {
        int story = Checks.story(x, text, year, 1);
        return x.odds(story, 0);
    }

    private static void names() {
        OlderSkin x = new OlderSkin();
        c.due("all 0 at first", weight(x, "o+r+s+b+l+y+f+a", 0), 0);
        x.sheet(1500);
        x.sheet(1480);
        c.due("a", weight(x, "a", 1400), 100);
        c.due("a, 0 at least", weight(x, "5+a", 1600), 5);
        x.dot(0, 10);
        x.dot(11, 20);
        x.dot(25, 24);
        x.dot(6, 1000);
        x.dot(7, 8);
        x.dot(17, 9);
        c.due("s and b: pooled, cut", weight(x, "s*100+b", 0), 1808);
        x.made(1900, 19);
        c.due("y: an ink's own mean is above", weight(x, "1+y", 1899), 2);
        x.made(1899, 19);
        c.due("y: that year is not before it", x.odds(4, 0), 1);
        x.made(1900, 24);
        c.due("y: none above", x.odds(4, 0), 1);
        x.made(1900, 23);
        c.due("y: the last of the inks", x.odds(4, 0), 2);
        x.place(1700, 0, 0);
        x.place(1701, 0, 0);
        c.due("l", weight(x, "l", 1700), 1);
        x.age(1, 1999);
        c.due("a: the youngest is the latest", x.odds(1, 0), 599);
        marksTell();
    }

    private static void marksTell() {
        OlderSkin x = new OlderSkin();
        x.sheet(0);
        x.sheet(0);
        for (int k = 0; k < 3; k++) {
            x.hole(0, 100 * k);
            x.hole(1, 100 * k + 6);
        }
        x.line(0, 0);
        x.line(1, 0);
        x.mark(0, 1);
        x.mark(2, 1);
        x.mark(101, 0);
        c.due("o, r and f by slack 5", weight(x, "o*100+r*10+f", 0), 210);
        x.hole(1, 5);
        x.mark(106, 0);
        c.due("f: a fight by slack 5", x.odds(0, 0), 221);
    }

    private static void priorsAndOdds() {
        OlderSkin x = new OlderSkin();
        c.due("no stories: odds", x.odds(0, 0), BAD);
        c.due("no stories: prior", x.prior(0, 1), BAD);
        Checks.story(x, "0", 0, 10);
        c.due("a sum of 0", x.odds(0, 1), NOT);
        Checks.story(x, "2", 0, 10);
        Checks.story(x, "1", 0, 11);
        c.due("odds(3, 0)", x.odds(3, 0), BAD);
        c.due("odds(-1, 0)", x.odds(-1, 0), BAD);
        c.due("odds(0, 2)", x.odds(0, 2), BAD);
        c.due("odds(0, -1)", x.odds(0, -1), BAD);
        c.due("odds 0", x.odds(0, 1), 0);
        c.due("odds 1", x.odds(1, 1), 645);
        c.due("odds 2, cut", x.odds(2, 1), 354);
        c.due("prior(2, 0)", x.prior(2, 0), BAD);
        c.due("prior(2, 100)", x.prior(2, 100), BAD);
        c.due("prior(3, 5)", x.prior(3, 5), BAD);
        c.due("prior(2, 99)", x.prior(2, 99), 11);
        c.due("prior(2, 1)", x.prior(2, 1), 99);
        c.due("odds 2 then", x.odds(2, 1), 47);
        OlderSkin big = new OlderSkin();
        for (int k = 0; k < 6; k++) {
            Checks.story(big, "9999", 0, 99);
        }
        c.due("the greatest sum", big.odds(5, 1), 166);
    }

    private static void bestOne() {
        OlderSkin x = new OlderSkin();
        c.due("no stories", x.best(), STATE);
        Checks.story(x, "0", 0, 99);
        c.due("a sum of 0", x.best(), 0);
        Checks.story(x, "6", 0, 5);
        Checks.story(x, "5", 0, 6);
        c.due("of like ones the first", x.best(), 1);
        x.prior(2, 7);
        c.due("the greatest", x.best(), 2);
    }

    private static void nextDot() {
        OlderSkin x = new OlderSkin();
        Checks.story(x, "s", 0, 1);
        Checks.story(x, "100", 0, 1);
        x.dot(0, 100);
        x.dot(7, 100);
        // 500 now; s 50 with a dot of 0: 333; s 200 with a dot of 300: 666
        c.due("the ink", x.next(300, 0), 0);
        c.due("the change down is the greater", x.next(300, 1), 167);
        c.due("the change up is the greater", x.next(1900, 1), 409);
        c.due("no dot stays", x.count(4), 2);
        c.due("nor its stuff", x.mean(50), 100);
        OlderSkin b = new OlderSkin();
        Checks.story(b, "b", 0, 1);
        Checks.story(b, "90", 0, 1);
        b.dot(7, 100);
        c.due("by ink 7", b.next(100, 0), 7);
        // 526 now; b 50: 357
        c.due("by ink 7, the change", b.next(100, 1), 526 - 357);
        OlderSkin bar = new OlderSkin();
        bar.made(1900, 50);
        bar.dot(0, 10);
        bar.dot(1, 40);
        bar.dot(10, 10);
        Checks.story(bar, "1-y", 1500, 1);
        Checks.story(bar, "0", 1500, 1);
        c.due("a sum that becomes 0", bar.next(75, 1), 1000);
        c.due("the least ink that bars", bar.next(75, 0), 1);
        c.due("an ink without dots bars by 60", bar.next(60, 0), 2);
        c.due("none bars", bar.next(50, 1), 0);
        c.due("of like ones the least", bar.next(50, 0), 0);
        OlderSkin now = new OlderSkin();
        Checks.story(now, "s<50", 0, 1);
        Checks.story(now, "s>40", 0, 2);
        now.dot(0, 45);
        c.due("best is 1 now", now.best(), 1);
        c.due("its odds now", now.odds(1, 1), 666);
        c.due("the story that is best now, not then", now.next(1000, 1), 666);
        OlderSkin zero = new OlderSkin();
        Checks.story(zero, "s=25", 0, 1);
        Checks.story(zero, "0", 0, 1);
        zero.dot(0, 25);
        zero.dot(10, 25);
        c.due("a dot of 0, and none of 1", zero.next(26, 1), 1000);
        c.due("a dot of 26 alone tells none", zero.next(25, 1), 1000);
        OlderSkin none = new OlderSkin();
        Checks.story(none, "s+1", 0, 1);
        Checks.story(none, "1", 0, 1);
        c.due("the first dot of all", none.next(9, 1), 1000 * 10 / 11 - 500);
        c.due("and it is gone then", none.count(4), 0);
    }

    private static void nextRefused() {
        OlderSkin x = new OlderSkin();
        c.due("next(-1, 0)", x.next(-1, 0), BAD);
        c.due("next(10000, 0)", x.next(10000, 0), BAD);
        c.due("next(0, 2)", x.next(0, 2), BAD);
        c.due("next(0, -1)", x.next(0, -1), BAD);
        c.due("no stories", x.next(0, 0), STATE);
        Checks.story(x, "0", 0, 1);
        c.due("a sum of 0", x.next(9999, 0), NOT);
        for (int k = 0; k < 40; k++) {
            c.due("dot", x.dot(0, 1), k);
        }
        c.due("dots are full, and a sum of 0", x.next(0, 0), STATE);
        c.due("dots are full, h not so", x.next(10000, 0), BAD);
        Checks.story(x, "1", 0, 1);
        c.due("dots are full", x.next(0, 1), STATE);
    }

    private static void undone() {
        OlderSkin x = new OlderSkin();
        x.sheet(5);
        x.dot(0, 50);
        Checks.story(x, "1", 0, 9);
        Checks.story(x, "1", 0, 1);
        c.due("none to undo", x.undo(), STATE);
        x.age(0, 6);
        x.mend(0, 60);
        x.prior(0, 4);
        c.due("count(9)", x.count(9), 3);
        x.age(0, 6);
        x.mend(0, 60);
        x.prior(0, 4);
        c.due("the same numbers are no changes", x.count(9), 3);
        c.due("undo the prior", x.undo(), 2);
        c.due("the prior is back", x.odds(0, 1), 900);
        c.due("undo the stuff", x.undo(), 1);
        c.due("the stuff is back", x.mean(0), 50);
        c.due("count(9) then", x.count(9), 1);
        c.due("redo the stuff", x.redo(), 1);
        c.due("the stuff again", x.mean(0), 60);
        c.due("redo the prior", x.redo(), 0);
        c.due("the prior again", x.odds(0, 1), 800);
        c.due("none to redo", x.redo(), STATE);
        x.undo();
        x.undo();
        c.due("undo the age", x.undo(), 0);
        c.due("none left to undo", x.undo(), STATE);
        c.due("the age is back, and told again it is no change", x.age(0, 5), 5);
        c.due("so it may be done again", x.redo(), 2);
        c.due("the age again", x.age(0, 6), 6);
        x.dot(1, 9);
        c.due("a new dot bars no redo", x.redo(), 1);
        c.due("another change", x.mend(1, 8), 9);
        c.due("bars the redo", x.redo(), STATE);
        c.due("three to undo", x.count(9), 3);
        c.due("BAD is no change", x.mend(1, -1), BAD);
        c.due("still three", x.count(9), 3);
    }

    private static void fortyOfAllSorts() {
        OlderSkin x = new OlderSkin();
        for (int k = 0; k < 8; k++) {
            x.sheet(k);
        }
        for (int k = 0; k < 40; k++) {
            x.dot(0, k);
        }
        for (int k = 0; k < 6; k++) {
            Checks.story(x, "1", 0, 1 + k);
        }
        for (int k = 0; k < 50; k++) {
            if (k % 3 == 0) {
                x.age(7 - k % 8, 1000 + k);
            } else if (k % 3 == 1) {
                x.mend(39 - k % 40, 1000 + k);
            } else {
                x.prior(k % 6, 40 + k);
            }
        }
        for (int k = 39; k >= 0; k--) {
            c.due("undo", x.undo(), k);
        }
        // changes 0 to 9 are lost, so they stay
        c.due("change 9 stays", x.age(6, 9), 1009);
        x.undo();
        c.due("change 7 stays", x.mend(32, 9), 1007);
        x.undo();
        c.due("change 10 is undone", x.mend(29, 9), 29);
        c.due("change 49 is undone", x.mend(30, 9), 30);
        c.due("change 8 stays", x.prior(2, 9), 48);
        c.due("change 11 is undone", x.prior(5, 9), 45);
        x.undo();
        x.undo();
        x.undo();
        x.undo();
        c.due("those four may be done again", x.redo(), 3);
    }

    private static void fortyAreKept() {
        OlderSkin x = new OlderSkin();
        x.dot(0, 0);
        for (int k = 1; k <= 45; k++) {
            c.due("mend to " + k, x.mend(0, k), k - 1);
            c.due("kept", x.count(9), Math.min(k, 40));
        }
        for (int k = 39; k >= 0; k--) {
            c.due("undo", x.undo(), k);
            c.due("the stuff before it", x.mean(0), 5 + k);
        }
        c.due("the oldest five are lost", x.mean(0), 5);
        c.due("none left", x.undo(), STATE);
        for (int k = 39; k >= 0; k--) {
            c.due("redo", x.redo(), k);
            c.due("the stuff behind it", x.mean(0), 45 - k);
        }
        c.due("all done again", x.mean(0), 45);
        c.due("none to redo", x.redo(), STATE);
        x.undo();
        x.mend(0, 99);
        c.due("forty", x.count(9), 40);
        x.mend(0, 98);
        c.due("forty still", x.count(9), 40);
    }
}
