/** Boundary cases of promises 30 to 37, each with the words of the document that name it. */
public final class StoriesEdgesTest {
    private static final Checks c = new Checks("StoriesEdgesTest");
    private static final int BAD = OlderSkin.BAD, NOT = OlderSkin.NOT, FULL = OlderSkin.FULL, STATE = OlderSkin.STATE;

    public static void main(String[] args) {
        bytesComeToTheTape();
        theTapeBecomesAStory();
        sixStories();
        weightsHeld();
        namesWithout();
        namesOfAll();
        priorsToldAnew();
        oddsRefused();
        oddsCut();
        bestOfLikeOnes();
        nextRefused();
        nextOfLikeOnes();
        nextBySumsOfNought();
        nothingToUndo();
        theSameNumberIsNone();
        asLongAsNoOther();
        fortyAtMost();
        c.end();
    }

    private static int weight(String text) {
        return weight(new OlderSkin(), text, 0);
    }

    private static int weight(OlderSkin x, String text, int year) {
        return x.odds(Checks.story(x, text, year, 1), 0);
    }

    private static OlderSkin withStories(String... texts) {
        OlderSkin x = new OlderSkin();
        for (String text : texts) {
            Checks.story(x, text, 0, 1);
        }
        return x;
    }

    private static void bytesComeToTheTape() {
        c.says("30: n (1 .. 4) bytes come to THE TAPE, the lowest of v first: how many it has. BAD");
        c.range("feed(n, 0)", 1, 4, BAD, v -> new OlderSkin().feed(v, 0));
        OlderSkin x = new OlderSkin();
        c.due("none of a BAD one", x.feed(5, 0), BAD);
        c.due("the tape is empty still", x.count(7), 0);
        int has = 0;
        for (int n = 1; n <= 4; n++) {
            has += n;
            c.due("feed(" + n + ")", x.feed(n, -1), has);
            c.due("count(7)", x.count(7), has);
        }
        int v = '7' | '*' << 8 | '3' << 16 | '%' << 24;
        String[] texts = {"7", "7*", "7*3", "7*3%"};
        int[] answers = {0, -102, 0, -104};
        for (int n = 1; n <= 4; n++) {
            OlderSkin y = new OlderSkin();
            y.feed(n, v);
            c.due("the lowest first: " + texts[n - 1], y.story(0, 1), answers[n - 1]);
        }
        c.due("weight by one byte", byBytes(1, v), 7);
        c.due("weight by three", byBytes(3, v), 21);
        c.due("bytes above n don't come", byBytes(1, -256 | '9'), 9);
        OlderSkin many = new OlderSkin();
        for (int k = 1; k <= 510; k++) {
            c.due("512 calls can't fill it", many.feed(4, '+' << 24 | '1' << 16 | '+' << 8 | '1'), 4 * k);
        }
        int[] bytes = {0, -1, Integer.MIN_VALUE, Integer.MAX_VALUE};
        for (int v4 : bytes) {
            OlderSkin odd = new OlderSkin();
            for (int k = 1; k <= 511; k++) {
                c.due("whatever the bytes are: " + v4, odd.feed(4, v4), 4 * k);
            }
            c.due("none of them is a text", odd.story(0, 1), -100);
        }
        many.feed(1, '1');
        c.due("a text of 2041 bytes", many.story(0, 1), 0);
        c.due("its weight", many.odds(0, 0), 1021);
    }

    private static int byBytes(int n, int v) {
        OlderSkin x = new OlderSkin();
        x.feed(n, v);
        x.story(0, 1);
        return x.odds(0, 0);
    }

    private static OlderSkin fed(String text) {
        OlderSkin x = new OlderSkin();
        Checks.feed(x, text);
        return x;
    }

    private static void theTapeBecomesAStory() {
        c.says("31: with a YEAR of drawing (0 .. 2000) and a PRIOR (1 .. 99). BAD");
        c.range("story(year, 1)", 0, 2000, BAD, v -> fed("1").story(v, 1));
        c.range("story(0, prior)", 1, 99, BAD, v -> fed("1").story(0, v));
        c.says("31: BAD, FULL (it stays)");
        OlderSkin x = fed("1+");
        c.due("BAD is named ahead of a fault: year", x.story(2001, 1), BAD);
        c.due("BAD is named ahead of a fault: prior", x.story(0, 0), BAD);
        c.due("the tape stays", x.count(7), 2);
        x.feed(1, '4');
        c.due("what came ahead is there", x.story(0, 1), 0);
        c.due("weight", x.odds(0, 0), 5);
        c.says("31: THE TAPE is empty then");
        c.due("behind a story", x.count(7), 0);
        c.due("so the next has nothing", x.story(0, 1), -100);
        Checks.feed(x, "1+?");
        c.due("a fault", x.story(0, 1), -102);
        c.due("behind a fault", x.count(7), 0);
        c.due("a fault brings no story", x.count(8), 1);
        Checks.feed(x, "6");
        c.due("nothing is left of it", x.story(0, 1), 1);
        c.due("weight", x.odds(1, 0), 6);
    }

    private static void sixStories() {
        c.says("31: STORIES 0 .. 5, as they come; FULL (it stays)");
        OlderSkin x = new OlderSkin();
        for (int k = 0; k <= 5; k++) {
            c.due("story", Checks.story(x, "" + k, 0, 1), k);
        }
        Checks.feed(x, "12");
        c.due("a sixth number is not there", x.story(0, 1), FULL);
        c.due("the tape stays", x.count(7), 2);
        c.due("count(8)", x.count(8), 6);
        c.due("BAD is named ahead of FULL: year", x.story(-1, 1), BAD);
        c.due("BAD is named ahead of FULL: prior", x.story(0, 100), BAD);
        x.feed(1, '?');
        c.due("FULL, though the text ends too early", x.story(0, 1), FULL);
        c.due("the tape stays", x.count(7), 3);
        for (int k = 0; k <= 5; k++) {
            c.due("each has its own text", x.odds(k, 0), k);
        }
    }

    private static void weightsHeld() {
        c.says("33: TEXTS of WEIGHT (held within 0 .. 9999)");
        c.due("-1", weight("0-1"), 0);
        c.due("0", weight("0"), 0);
        c.due("1", weight("1"), 1);
        c.due("9998", weight("9998"), 9998);
        c.due("9999", weight("9999"), 9999);
        c.due("10000", weight("9999+1"), 9999);
        c.due("the greatest int", weight("4096*4096*128-1"), 9999);
        c.due("the least int", weight("4096*4096*128"), 0);
        c.due("within a text they are not held", weight("9999+9999-9999-9998"), 1);
        c.due("below 0 neither", weight("0-5+7"), 2);
        c.due("nor what stands ahead of ?", weight("0-1?5;6"), 5);
    }

    private static void namesWithout() {
        c.says("33: s (0 without), b (0 without), a (0 at least; 0 without)");
        String[] all = {"o", "r", "s", "b", "l", "y", "f", "a"};
        for (String name : all) {
            c.due(name + " at first", weight(name + "+3"), 3);
        }
        OlderSkin x = new OlderSkin();
        x.dot(6, 700);
        c.due("bare skin is in neither", weight(x, "s+b+3", 0), 3);
        x.dot(7, 5);
        c.due("b", weight(x, "s*100+b", 0), 5);
        x.dot(45, 9);
        c.due("s", x.odds(1, 0), 905);
        c.says("33: a AGE of the youngest SHEET less its YEAR (0 at least; 0 without)");
        OlderSkin y = new OlderSkin();
        c.due("without sheets", weight(y, "a+1", 0), 1);
        y.sheet(1400);
        c.due("one year less", weight(y, "a+1", 1399), 2);
        c.due("that year", weight(y, "a+1", 1400), 1);
        c.due("one year more: 0 at least", weight(y, "a+1", 1401), 1);
        y.sheet(1401);
        c.due("the youngest counts", y.odds(1, 0), 3);
        c.due("for all", y.odds(2, 0), 2);
        y.sheet(0);
        c.due("an older one doesn't", y.odds(3, 0), 1);
        y.age(1, 2000);
        c.due("the last year less the first", y.odds(0, 0), 2001);
        c.says("33: l PLACES LATE by its YEAR; y 1, if some INK bars its YEAR; f by SLACK 5");
        OlderSkin z = new OlderSkin();
        z.place(500, 0, 0);
        z.dot(0, 1);
        z.made(500, 0);
        c.due("the year before", weight(z, "l*10+y", 499), 11);
        c.due("that year", weight(z, "l*10+y", 500), 0);
        z.mend(0, 0);
        c.due("ink 0 bars no more", z.odds(0, 0), 10);
        z.dot(6, 1);
        z.dot(7, 1);
        c.due("neither bare skin nor ink 7 bars", z.odds(0, 0), 10);
        z.dot(5, 1);
        c.due("ink 5 bars", z.odds(0, 0), 11);
        z.sheet(0);
        z.sheet(0);
        z.hole(0, 0);
        z.hole(1, 6);
        z.line(0, 0);
        z.line(1, 0);
        z.mark(0, 1);
        z.mark(101, 0);
        c.due("farther off than slack 5", weight(z, "f*100+o*10+r", 0), 11);
        z.hole(1, 5);
        z.mark(102, 0);
        c.due("as far off as slack 5", z.odds(2, 0), 112);
        z.mark(0, 0);
        c.due("line 0 is round now, as line 1 is", z.odds(2, 0), 3);
        z.mark(101, 1);
        z.mark(102, 1);
        c.due("a fight of line 1 alone", z.odds(2, 0), 121);
        z.mark(101, 0);
        c.due("by one of its marks", z.odds(2, 0), 112);
    }

    private static void namesOfAll() {
        c.says("33: o, r of 60 MARKS, s, b of 40 DOTS, l of 20 PLACES, a of 8 SHEETS");
        OlderSkin x = new OlderSkin();
        for (int k = 0; k < 8; k++) {
            x.sheet(1000 + k);
        }
        for (int k = 0; k < 40; k++) {
            x.hole(0, k);
            x.dot(k < 39 ? 7 : 45, 10 * k);
        }
        x.line(0, 0);
        x.line(0, 1);
        for (int k = 0; k < 60; k++) {
            x.mark(100 * (k / 40) + k % 40, k % 4 == 3 ? 1 : 0);
        }
        for (int k = 0; k < 20; k++) {
            x.place(k < 19 ? 500 : 900, 0, 0);
        }
        c.due("o", weight(x, "o", 0), 15);
        c.due("r", weight(x, "r", 0), 45);
        c.due("s", weight(x, "s", 0), 390);
        c.due("b", weight(x, "b", 0), 190);
        c.due("l", weight(x, "l*20+l", 499), 420);
        c.due("a, and one place", weight(x, "a*10+l", 899), 1081);
    }

    private static void priorsToldAnew() {
        c.says("32: PRIOR of a STORY becomes v: what it was. BAD.");
        c.due("without stories", new OlderSkin().prior(0, 1), BAD);
        c.range("prior(story, 5) of three", 0, 2, BAD, v -> withStories("1", "2", "3").prior(v, 5));
        c.range("prior(0, v)", 1, 99, BAD, v -> withStories("1").prior(0, v));
        c.range("prior(story, 5) of six", 0, 5, BAD, v -> withStories("1", "1", "1", "1", "1", "1").prior(v, 5));
        OlderSkin x = new OlderSkin();
        Checks.story(x, "1", 0, 99);
        c.due("99 was told", x.prior(0, 1), 99);
        c.due("refused: 0", x.prior(0, 0), BAD);
        c.due("refused: 100", x.prior(0, 100), BAD);
        c.due("it stays 1", x.prior(0, 2), 1);
    }

    private static void oddsRefused() {
        c.says("33: WEIGHT of a STORY (what 0), ODDS (1; NOT). BAD.");
        c.due("without stories", new OlderSkin().odds(0, 0), BAD);
        c.due("without stories, what 1", new OlderSkin().odds(0, 1), BAD);
        c.range("odds(story, 0) of three", 0, 2, BAD, v -> withStories("1", "2", "3").odds(v, 0));
        c.range("odds(story, 1) of three", 0, 2, BAD, v -> withStories("1", "2", "3").odds(v, 1));
        c.range("odds(0, what)", 0, 1, BAD, v -> withStories("1").odds(0, v));
        c.says("33: NOT: the sum is 0");
        OlderSkin x = withStories("0", "0-9");
        c.due("ODDS", x.odds(0, 1), NOT);
        c.due("ODDS of the other", x.odds(1, 1), NOT);
        c.due("WEIGHT is 0", x.odds(0, 0), 0);
        c.due("BAD is named ahead of NOT", x.odds(2, 1), BAD);
        Checks.story(x, "1", 0, 1);
        c.due("the sum is 1: 0 of it", x.odds(0, 1), 0);
        c.due("the sum is 1: all of it", x.odds(2, 1), 1000);
    }

    private static void oddsCut() {
        c.says("33: PRIOR times WEIGHT by the sum of these over all STORIES, thousandths (cut)");
        c.due("a third", withStories("1", "1", "1").odds(0, 1), 333);
        c.due("two thirds", withStories("2", "1").odds(0, 1), 666);
        c.due("all but a little", withStories("9999", "1").odds(0, 1), 999);
        c.due("a little", withStories("9999", "1").odds(1, 1), 0);
        c.due("one thousandth", withStories("999", "1").odds(1, 1), 1);
        OlderSkin most = new OlderSkin();
        for (int k = 0; k < 6; k++) {
            Checks.story(most, "9999", 0, 99);
        }
        c.due("the greatest of all: no wrap", most.odds(5, 1), 166);
        OlderSkin one = new OlderSkin();
        Checks.story(one, "9999", 0, 99);
        c.due("the greatest alone: no wrap", one.odds(0, 1), 1000);
        OlderSkin priors = new OlderSkin();
        Checks.story(priors, "1", 0, 99);
        Checks.story(priors, "1", 0, 1);
        c.due("by priors", priors.odds(0, 1), 990);
        c.due("by priors", priors.odds(1, 1), 10);
    }

    private static void bestOfLikeOnes() {
        c.says("34: STATE: no STORIES");
        c.due("at first", new OlderSkin().best(), STATE);
        c.due("behind a fault", withStories("q").best(), STATE);
        c.says("34: the greatest PRIOR times WEIGHT (of like ones the first)");
        c.due("the only one", withStories("0").best(), 0);
        c.due("all 0: the first", withStories("0", "0", "0").best(), 0);
        c.due("like ones", withStories("1", "5", "5").best(), 1);
        c.due("one more", withStories("1", "5", "6").best(), 2);
        c.due("the last of six", withStories("1", "1", "1", "1", "1", "2").best(), 5);
        OlderSkin x = new OlderSkin();
        Checks.story(x, "99", 0, 1);
        Checks.story(x, "1", 0, 99);
        c.due("like by prior times weight", x.best(), 0);
        x.prior(0, 2);
        c.due("greater by its prior", x.best(), 0);
        x.prior(0, 1);
        Checks.story(x, "100", 0, 1);
        c.due("greater by its weight", x.best(), 2);
    }

    private static void nextRefused() {
        c.says("35: NEXT with h (0 .. 9999): the INK (what 0), the change (1). BAD");
        c.range("next(h, 0)", 0, 9999, BAD, v -> withStories("1").next(v, 0));
        c.range("next(h, 1)", 0, 9999, BAD, v -> withStories("1").next(v, 1));
        c.range("next(0, what)", 0, 1, BAD, v -> withStories("1").next(0, v));
        c.says("35: STATE: no STORIES, or DOTS are FULL; NOT");
        OlderSkin x = new OlderSkin();
        c.due("no stories", x.next(0, 0), STATE);
        c.due("BAD is named ahead of STATE: h", x.next(10000, 0), BAD);
        c.due("BAD is named ahead of STATE: what", x.next(0, 2), BAD);
        Checks.story(x, "1", 0, 1);
        for (int k = 0; k < 39; k++) {
            x.dot(0, 1);
        }
        c.due("39 dots are not full", x.next(0, 0), 0);
        c.due("the dot is gone again", x.count(4), 39);
        c.due("a fortieth comes", x.dot(0, 1), 39);
        c.due("40 are full", x.next(0, 0), STATE);
        c.due("40 are full, the change", x.next(0, 1), STATE);
        c.due("BAD is named ahead of STATE: h", x.next(-1, 0), BAD);
        c.says("35: NOT: the sum is 0 now");
        c.due("the ink", withStories("0").next(9999, 0), NOT);
        c.due("the change", withStories("0").next(9999, 1), NOT);
        c.due("though it would not be 0 with a dot", withStories("s").next(9999, 1), NOT);
        c.due("BAD is named ahead of NOT", withStories("0").next(10000, 0), BAD);
    }

    private static void nextOfLikeOnes() {
        c.says("35: the INK with the greatest change (of like ones the least)");
        c.due("none changes: the least", withStories("1", "2").next(9999, 0), 0);
        c.due("none changes: 0", withStories("1", "2").next(9999, 1), 0);
        OlderSkin s = withStories("s+1", "1");
        c.due("inks 0 to 5 are alike", s.next(9999, 0), 0);
        OlderSkin b = withStories("b+1", "1");
        c.due("ink 7 alone", b.next(9999, 0), 7);
        c.due("to 999 from 500", b.next(9999, 1), 499);
        c.due("h 0 is as STUFF 0", b.next(0, 1), 0);
        OlderSkin both = withStories("s+b+1", "1");
        both.dot(7, 10);
        c.due("ink 0 adds, ink 7 is half", both.next(10, 0), 7);
        c.says("35: of STUFF 0, and of h instead: the greater size of both");
        OlderSkin x = withStories("s", "50");
        x.dot(0, 100);
        // 666 now; 500 by a dot of 0; 750 by one of 200, 833 by one of 400
        c.due("a fall counts by its size", x.next(200, 1), 166);
        c.due("a rise that is greater", x.next(400, 1), 833 - 666);
        c.due("no dot stays", x.mean(0), 100);
        c.says("35: of HOUSE 0, in an INK (0 .. 7)");
        OlderSkin skin = new OlderSkin();
        Checks.story(skin, "1", 0, 1);
        skin.next(77, 0);
        for (int hi = 0; hi <= 57; hi++) {
            c.due("none is left of ink " + hi, hi % 10 > 7 ? NOT : skin.mean(hi), NOT);
        }
    }

    private static void nextBySumsOfNought() {
        c.says("35: a sum that becomes 0: ODDS 0");
        c.due("from 1000 to 0", withStories("!b").next(1, 1), 1000);
        c.due("by ink 7", withStories("!b").next(1, 0), 7);
        c.due("from 500 to 0, both gone", withStories("!s", "!s").next(1, 1), 500);
        c.says("35: ODDS of that STORY that is BEST now");
        OlderSkin x = withStories("2-b", "1");
        c.due("the first is best now", x.best(), 0);
        c.due("666 now, 0 by a dot of 9", x.next(9, 1), 666);
        OlderSkin like = withStories("1", "1+b");
        c.due("of like ones the first", like.best(), 0);
        c.due("its odds fall from 500 to 90", like.next(9, 1), 410);
    }

    private static void nothingToUndo() {
        c.says("36: UNDONE: how many may still be. STATE: none.");
        OlderSkin x = new OlderSkin();
        c.due("at first", x.undo(), STATE);
        x.sheet(1);
        x.dot(0, 1);
        Checks.story(x, "1", 0, 1);
        x.made(5, 5);
        x.map(0, 0);
        x.place(0, 0, 0);
        x.body(0);
        x.row(0, 0, 5);
        x.put(0, 0, 5);
        c.due("these are no changes", x.undo(), STATE);
        c.due("count(9)", x.count(9), 0);
        x.age(0, 2);
        c.due("the only one", x.undo(), 0);
        c.due("none is left", x.undo(), STATE);
        c.due("the age is back", x.age(0, 1), 1);
        c.says("37: DONE AGAIN: how many may still be. STATE: none.");
        c.due("the only one", x.redo(), 0);
        c.due("none is left", x.redo(), STATE);
        c.due("the age is told again", x.age(0, 2), 2);
        c.due("without an undo", new OlderSkin().redo(), STATE);
        OlderSkin y = new OlderSkin();
        y.dot(0, 1);
        y.mend(0, 2);
        c.due("a change alone", y.redo(), STATE);
        y.mend(0, 3);
        y.mend(0, 4);
        c.due("the latest first: 2 are left", y.undo(), 2);
        c.due("stuff", y.mean(0), 3);
        y.undo();
        y.undo();
        int[] stuffs = {2, 3, 4};
        for (int k = 0; k < 3; k++) {
            c.due("those that may still be", y.redo(), 2 - k);
            c.due("stuff", y.mean(0), stuffs[k]);
            c.due("count(9)", y.count(9), k + 1);
        }
    }

    private static void theSameNumberIsNone() {
        c.says("36, 37: telling the same number is none");
        OlderSkin x = new OlderSkin();
        x.sheet(7);
        x.dot(0, 7);
        Checks.story(x, "1", 0, 7);
        c.due("age", x.age(0, 7), 7);
        c.due("mend", x.mend(0, 7), 7);
        c.due("prior", x.prior(0, 7), 7);
        c.due("count(9)", x.count(9), 0);
        c.due("nothing to undo", x.undo(), STATE);
        x.age(0, 8);
        x.mend(0, 8);
        x.prior(0, 8);
        c.due("three changes", x.count(9), 3);
        x.undo();
        x.undo();
        x.undo();
        x.age(0, 7);
        x.mend(0, 7);
        x.prior(0, 7);
        c.due("so all may be done again", x.redo(), 2);
        c.due("refused: none", x.age(0, 2001), BAD);
        c.due("refused: none", x.mend(1, 5), BAD);
        c.due("refused: none", x.prior(0, 0), BAD);
        c.due("so two may be still", x.redo(), 1);
    }

    private static void asLongAsNoOther() {
        c.says("37: DONE AGAIN (as long as no other came behind)");
        for (int sort = 0; sort < 3; sort++) {
            OlderSkin x = new OlderSkin();
            x.sheet(1);
            x.dot(0, 1);
            Checks.story(x, "1", 0, 1);
            x.mend(0, 2);
            x.mend(0, 3);
            x.undo();
            int was = sort == 0 ? x.age(0, 9) : sort == 1 ? x.mend(0, 9) : x.prior(0, 9);
            c.due("what it was", was, sort == 1 ? 2 : 1);
            c.due("another came behind", x.redo(), STATE);
            c.due("two may be undone", x.count(9), 2);
            c.due("the other is undone", x.undo(), 1);
            c.due("and done again", x.redo(), 0);
            c.due("but not the one ahead of it", x.redo(), STATE);
            x.undo();
            c.due("the stuff told first", x.mean(0), 2);
            c.due("undone", x.undo(), 0);
            c.due("the stuff that came", x.mean(0), 1);
        }
    }

    private static void fortyAtMost() {
        c.says("36, 37: 40 at most are kept");
        for (int told = 39; told <= 43; told++) {
            OlderSkin x = new OlderSkin();
            x.dot(0, 0);
            for (int k = 1; k <= told; k++) {
                x.mend(0, k);
            }
            int kept = Math.min(told, 40);
            c.due("count(9) of " + told, x.count(9), kept);
            for (int k = kept - 1; k >= 0; k--) {
                c.due("undo", x.undo(), k);
            }
            c.due("no more", x.undo(), STATE);
            c.due("the oldest are lost", x.mean(0), told - kept);
            for (int k = kept - 1; k >= 0; k--) {
                c.due("redo", x.redo(), k);
            }
            c.due("no more", x.redo(), STATE);
            c.due("the last is told again", x.mean(0), told);
        }
        OlderSkin y = new OlderSkin();
        y.dot(0, 0);
        for (int k = 1; k <= 40; k++) {
            y.mend(0, k);
        }
        y.undo();
        y.mend(0, 50);
        c.due("one undone makes room for one", y.count(9), 40);
        for (int k = 0; k < 40; k++) {
            y.undo();
        }
        c.due("so the oldest is kept", y.mean(0), 0);
        fortyOfThreeSorts();
    }

    /** Changes of all sorts and numbers, so that what is moved up as the oldest is lost is seen, too. */
    private static void fortyOfThreeSorts() {
        OlderSkin x = new OlderSkin();
        int[] was = new int[45];
        for (int k = 0; k < 8; k++) {
            x.sheet(100 + k);
        }
        for (int k = 0; k < 5; k++) {
            x.dot(k, 200 + k);
            Checks.story(x, "1", 0, 10 + k);
        }
        for (int k = 0; k < 45; k++) {
            was[k] = tell(x, k, 50 + k);
        }
        for (int k = 44; k >= 5; k--) {
            c.due("undo", x.undo(), k - 5);
            c.due("change " + k + " is undone", tell(x, k, was[k]), was[k]);
            c.due("telling that was none", x.count(9), k - 5);
        }
        for (int k = 5; k < 45; k++) {
            c.due("redo", x.redo(), 44 - k);
            c.due("change " + k + " is done again", tell(x, k, 50 + k), 50 + k);
        }
    }

    /** The k-th of three sorts by turns, each of another number than the one ahead. */
    private static int tell(OlderSkin x, int k, int v) {
        return k % 3 == 0 ? x.age(k % 8, v) : k % 3 == 1 ? x.mend(k % 5, v) : x.prior(k % 5, v);
    }
}
