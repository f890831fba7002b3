/** Promises 23 to 29: places, how well they are drawn, maps and their slips. */
public final class PlacesTest {
    private static final Checks c = new Checks("PlacesTest");
    private static final int BAD = OlderSkin.BAD, NOT = OlderSkin.NOT, FULL = OlderSkin.FULL;

    public static void main(String[] args) {
        placesCome();
        lateOnes();
        wellDrawn();
        mapsCome();
        fathers();
        hanging();
        sharedSlips();
        c.end();
    }

    private static void placesCome() {
        OlderSkin x = new OlderSkin();
        c.due("place(-1, 0, 0)", x.place(-1, 0, 0), BAD);
        c.due("place(2001, 0, 0)", x.place(2001, 0, 0), BAD);
        c.due("place(0, -1, 0)", x.place(0, -1, 0), BAD);
        c.due("place(0, 10000, 0)", x.place(0, 10000, 0), BAD);
        c.due("place(0, 0, -1)", x.place(0, 0, -1), BAD);
        c.due("place(0, 0, 10000)", x.place(0, 0, 10000), BAD);
        for (int k = 0; k < 20; k++) {
            c.due("place " + k, x.place(2000, 9999, 0), k);
        }
        c.due("21st", x.place(0, 0, 0), FULL);
        c.due("21st, bad", x.place(0, 0, 10000), BAD);
        c.due("count(5)", x.count(5), 20);
        c.due("all off", x.late(1999, 1), 20 * 198);
    }

    private static void lateOnes() {
        OlderSkin x = new OlderSkin();
        c.due("late(-1, 0)", x.late(-1, 0), BAD);
        c.due("late(2001, 0)", x.late(2001, 0), BAD);
        c.due("late(0, 2)", x.late(0, 2), BAD);
        c.due("late(0, -1)", x.late(0, -1), BAD);
        c.due("none", x.late(0, 0), 0);
        c.due("none, off", x.late(0, 1), 0);
        x.place(1500, 1020, 1319);
        x.place(1600, 5, 400);
        c.due("later than, not in", x.late(1500, 0), 1);
        c.due("off by y and x", x.late(1500, 1), 5 + 4);
        c.due("both", x.late(1499, 0), 2);
        c.due("both, off", x.late(1499, 1), 3 + 1 + 9);
        c.due("by the last", x.late(1600, 0), 0);
        c.due("drawn at the far end", x.place(1601, 9999, 9999), 2);
        c.due("none off", x.late(1600, 1), 0);
        x.place(1900, 9900, 9800);
        c.due("off by x alone", x.late(1800, 1), 1);
        x.place(1900, 9998, 9999);
        c.due("and by y alone", x.late(1800, 1), 2);
    }

    private static int wellSaid(int[][] lateOnes, int off, int seed, int n) {
        int z = seed;
        int often = 0;
        for (int k = 0; k < n; k++) {
            int sum = 0;
            for (int[] at : lateOnes) {
                for (int t : at) {
                    z = z * 1103515245 + 12345;
                    sum += Math.abs(t - (z >>> 8) % 100);
                }
            }
            often += sum <= off ? 1 : 0;
        }
        return often;
    }

    private static void wellDrawn() {
        OlderSkin x = new OlderSkin();
        c.due("well(-1, 0, 1)", x.well(-1, 0, 1), BAD);
        c.due("well(2001, 0, 1)", x.well(2001, 0, 1), BAD);
        c.due("well(0, 0, 0)", x.well(0, 0, 0), BAD);
        c.due("well(0, 0, 51)", x.well(0, 0, 51), BAD);
        c.due("none late", x.well(0, 0, 1), NOT);
        x.place(1500, 1020, 4550);
        x.place(1000, 1020, 4550);
        x.place(1700, 9030, 5090);
        c.due("none later", x.well(1700, 0, 50), NOT);
        c.due("none later, n not so", x.well(1700, 0, 51), BAD);
        int[] seeds = {0, 3, -5, 99, Integer.MAX_VALUE};
        for (int seed : seeds) {
            for (int n = 1; n <= 50; n += 7) {
                c.due("two late, seed " + seed + ", n " + n, x.well(1400, seed, n),
                    wellSaid(new int[][] {{10, 20}, {90, 30}}, 65 + 100, seed, n));
                c.due("one late, seed " + seed + ", n " + n, x.well(1500, seed, n),
                    wellSaid(new int[][] {{90, 30}}, 100, seed, n));
            }
        }
        OlderSkin true_ = new OlderSkin();
        int z = 17 * 1103515245 + 12345;
        int there = (z >>> 8) % 100;
        z = z * 1103515245 + 12345;
        true_.place(1, 100 * there + (z >>> 8) % 100, 100 * there + (z >>> 8) % 100);
        c.due("as little counts", true_.well(0, 17, 1), 1);
    }

    private static void mapsCome() {
        OlderSkin x = new OlderSkin();
        c.due("map(-1, 0)", x.map(-1, 0), BAD);
        c.due("map(2001, 0)", x.map(2001, 0), BAD);
        c.due("map(0, -1)", x.map(0, -1), BAD);
        c.due("map(0, 65536)", x.map(0, 65536), BAD);
        for (int k = 0; k < 8; k++) {
            c.due("map " + k, x.map(2000, 65535), k);
        }
        c.due("ninth", x.map(0, 0), FULL);
        c.due("ninth, bad", x.map(0, 65536), BAD);
        c.due("count(6)", x.count(6), 8);
    }

    private static void fathers() {
        OlderSkin x = new OlderSkin();
        c.due("no map", x.father(0, 0), BAD);
        x.map(1500, 0b1111);
        c.due("father(-1, 0)", x.father(-1, 0), BAD);
        c.due("father(1, 0)", x.father(1, 0), BAD);
        c.due("father(0, 2)", x.father(0, 2), BAD);
        c.due("father(0, -1)", x.father(0, -1), BAD);
        c.due("none earlier", x.father(0, 0), NOT);
        c.due("none earlier, bits", x.father(0, 1), NOT);
        x.map(1500, 0b1111);
        c.due("the same year is not earlier", x.father(1, 0), NOT);
        x.map(1400, 0);
        c.due("the only earlier one", x.father(0, 0), 2);
        c.due("four bits", x.father(0, 1), 4);
        x.map(1300, 0b0111);
        c.due("fewest bits, though older", x.father(0, 0), 3);
        x.map(1350, 0b1110);
        c.due("of like ones the latest", x.father(0, 0), 4);
        x.map(1350, 0b1101);
        c.due("then the least number", x.father(0, 0), 4);
        c.due("bits", x.father(0, 1), 1);
        c.due("of 2", x.father(2, 0), 4);
        c.due("of 3", x.father(3, 0), NOT);
        OlderSkin first = new OlderSkin();
        first.map(1000, 3);
        first.map(1500, 7);
        first.map(1200, 96);
        c.due("number 0 is a father", first.father(1, 0), 0);
        c.due("its bits", first.father(1, 1), 1);
        c.due("hangs on number 0", first.hangs(10), 1);
        c.due("tree by number 0", first.shared(-1), 1 + 4);
    }

    private static void hanging() {
        OlderSkin x = new OlderSkin();
        c.due("no maps", x.hangs(0), BAD);
        x.map(1500, 1);
        x.map(1400, 1);
        x.map(1300, 1);
        x.map(1500, 65535);
        c.due("hangs(-1)", x.hangs(-1), BAD);
        c.due("hangs(-10)", x.hangs(-10), BAD);
        c.due("hangs(4)", x.hangs(4), BAD);
        c.due("hangs(40)", x.hangs(40), BAD);
        c.due("on its father", x.hangs(1), 1);
        c.due("on its father's father", x.hangs(2), 1);
        c.due("not the other way", x.hangs(10), 0);
        c.due("nor up two", x.hangs(20), 0);
        c.due("nor on itself", x.hangs(11), 0);
        c.due("nor on another one's son", x.hangs(30), 0);
        OlderSkin chain = new OlderSkin();
        for (int k = 0; k < 8; k++) {
            chain.map(1000 + k, (1 << k) - 1);
        }
        c.due("the longest way", chain.hangs(70), 1);
        c.due("and not down it", chain.hangs(7), 0);
        c.due("6 on 5", chain.hangs(65), 1);
    }

    private static void sharedSlips() {
        OlderSkin x = new OlderSkin();
        c.due("no maps: tree", x.shared(-1), 0);
        c.due("no maps", x.shared(1), BAD);
        x.map(1500, 0b11011);
        x.map(1400, 0b01110);
        c.due("shared(0)", x.shared(0), BAD);
        c.due("shared(11)", x.shared(11), BAD);
        c.due("shared(2)", x.shared(2), BAD);
        c.due("shared(20)", x.shared(20), BAD);
        c.due("shared(-2)", x.shared(-2), BAD);
        c.due("shared(-10)", x.shared(-10), BAD);
        c.due("both have", x.shared(1), 0b01010);
        c.due("either way", x.shared(10), 0b01010);
        c.due("tree", x.shared(-1), 3);
        x.map(1450, 0b01000);
        c.due("and no other has", x.shared(1), 0b00010);
        c.due("tree of three", x.shared(-1), 2 + 3);
        OlderSkin many = new OlderSkin();
        for (int k = 0; k < 8; k++) {
            many.map(1000, k >= 6 ? 1 << 15 | 1 : k == 0 ? 1 : 0);
        }
        c.due("6 and 7", many.shared(67), 1 << 15);
        c.due("7 and 6", many.shared(76), 1 << 15);
        c.due("7 and 7", many.shared(77), BAD);
    }
}
