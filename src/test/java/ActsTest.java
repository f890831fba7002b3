import java.util.ArrayList;
import java.util.List;

/** Promises 38 to 47: bodies and their acts, shelves, counts. Acts are held against classes of Java itself. */
public final class ActsTest {
    private static final Checks c = new Checks("ActsTest");
    private static final int BAD = OlderSkin.BAD, FULL = OlderSkin.FULL;
    /** The bodies that ran in the latest act of Java's own classes. */
    static final List<Integer> ran = new ArrayList<>();

    private static int begin(int body) {
        ran.add(body);
        return 0;
    }

    interface Lies {
        int n();

        default int lies(int x) {
            begin(1);
            return x + n();
        }
    }

    interface Tells {
        int needs(int x);

        int shows(int x);

        default int tells(int x) {
            begin(2);
            return needs(x) - shows(1);
        }
    }

    static class Story implements Lies, Tells {
        private final int n;

        Story(int n) {
            this.n = n;
        }

        @Override public int n() {
            return n;
        }

        @Override public int needs(int x) {
            begin(10);
            return lies(x) * 2;
        }

        @Override public int shows(int x) {
            begin(11);
            return x ^ n();
        }
    }

    static class Then extends Story {
        Then(int n) {
            super(n);
        }

        @Override public int lies(int x) {
            begin(20);
            return super.lies(x) + 3;
        }
    }

    static class Later extends Story {
        Later(int n) {
            super(n);
        }

        @Override public int needs(int x) {
            begin(30);
            return -super.needs(x);
        }
    }

    static class GoneOver extends Then {
        GoneOver(int n) {
            super(n);
        }

        @Override public int shows(int x) {
            begin(40);
            return super.shows(x) * 3;
        }
    }

    static class Copied extends Later {
        Copied(int n) {
            super(n);
        }

        @Override public int tells(int x) {
            begin(50);
            return super.tells(x) ^ 5;
        }

        @Override public int needs(int x) {
            begin(51);
            return super.needs(x + 1);
        }
    }

    static class Joined extends Story {
        Joined(int n) {
            super(n);
        }

        @Override public int shows(int x) {
            begin(60);
            return super.shows(x) - lies(2);
        }
    }

    static class Soiled extends Story {
        Soiled(int n) {
            super(n);
        }

        @Override public int lies(int x) {
            begin(70);
            return super.lies(x) * 2;
        }
    }

    static class Treated extends Soiled {
        Treated(int n) {
            super(n);
        }

        @Override public int needs(int x) {
            begin(80);
            return super.needs(x) + shows(2);
        }

        @Override public int tells(int x) {
            begin(81);
            return super.tells(x) - 1;
        }
    }

    private static Story made(int kind, int n) {
        switch (kind) {
            case 0: return new Story(n);
            case 1: return new Then(n);
            case 2: return new Later(n);
            case 3: return new GoneOver(n);
            case 4: return new Copied(n);
            case 5: return new Joined(n);
            case 6: return new Soiled(n);
            default: return new Treated(n);
        }
    }

    private static int acted(Story s, int act, int x) {
        ran.clear();
        switch (act) {
            case 0: return s.lies(x);
            case 1: return s.needs(x);
            case 2: return s.shows(x);
            default: return s.tells(x);
        }
    }

    static int actOf(int kind, int n, int act, int x) {
        return acted(made(kind, n), act, x);
    }

    static boolean isOf(int kind, int other) {
        return made(other, 0).getClass().isInstance(made(kind, 0));
    }

    public static void main(String[] args) {
        bodiesCome();
        acts();
        noSuchAct();
        keeping();
        rows();
        elements();
        shifts();
        refusedShifts();
        takenFor();
        counts();
        c.end();
    }

    private static void bodiesCome() {
        OlderSkin x = new OlderSkin();
        c.due("body(-1)", x.body(-1), BAD);
        c.due("body(8)", x.body(8), BAD);
        for (int k = 0; k < 50; k++) {
            c.due("body " + k, x.body(k % 8), k);
        }
        c.due("51st", x.body(0), FULL);
        c.due("51st, bad", x.body(8), BAD);
        c.due("count(10)", x.count(10), 50);
    }

    private static void acts() {
        OlderSkin x = new OlderSkin();
        for (int k = 0; k < 50; k++) {
            x.body(k % 8);
        }
        int[] tried = {0, 1, -1, 2, 37, 1000000, Integer.MAX_VALUE, Integer.MIN_VALUE};
        for (int body = 0; body < 50; body += 3) {
            Story s = made(body % 8, body);
            for (int act = 0; act < 4; act++) {
                for (int v : tried) {
                    String call = "act(" + body + ", " + act + ", " + v + ")";
                    c.due(call, x.act(body, act, v), acted(s, act, v));
                    c.due(call + ": count(11)", x.count(11), ran.size());
                    for (int k = 0; k < ran.size(); k++) {
                        c.due(call + ": trace(" + k + ")", x.trace(k), ran.get(k));
                    }
                    c.due(call + ": behind the trace", x.trace(ran.size()), BAD);
                    c.due(call + ": trace(-1)", x.trace(-1), BAD);
                }
            }
        }
    }

    private static void noSuchAct() {
        OlderSkin x = new OlderSkin();
        c.due("no body", x.act(0, 0, 5), 0);
        x.body(1);
        int[][] wrong = {{1, 0}, {-1, 0}, {0, 4}, {0, -1}};
        for (int[] w : wrong) {
            c.due("an act", x.act(0, 0, 5), 8);
            c.due("its trace", x.trace(1), 1);
            c.due("act(" + w[0] + ", " + w[1] + ", 5)", x.act(w[0], w[1], 5), 0);
            c.due("no trace then", x.trace(0), BAD);
            c.due("none ran", x.count(11), 0);
        }
    }

    private static void keeping() {
        OlderSkin x = new OlderSkin();
        x.body(3);
        c.due("keep(-1, 0)", x.keep(-1, 0), BAD);
        c.due("keep(6, 0)", x.keep(6, 0), BAD);
        c.due("keep(0, 1)", x.keep(0, 1), BAD);
        c.due("keep(0, -2)", x.keep(0, -2), BAD);
        c.due("keep(5, 0)", x.keep(5, 0), 1);
        c.due("taken", x.taken(5, 0), 3);
        c.due("keep(5, -1)", x.keep(5, -1), 1);
        c.due("nothing then", x.taken(5, 0), -11);
        c.due("keep(0, -1) on a bare one", x.keep(0, -1), 1);
        x.row(0, 0, 5);
        c.due("a body over a row", x.keep(0, 0), 1);
        c.due("a row no more", x.element(0, 0), Long.MIN_VALUE);
        c.due("put refused", x.put(0, 0, 1), -12);
    }

    private static void rows() {
        OlderSkin x = new OlderSkin();
        c.due("row(-1, 0, 0)", x.row(-1, 0, 0), BAD);
        c.due("row(6, 0, 0)", x.row(6, 0, 0), BAD);
        c.due("row(0, 5, 0)", x.row(0, 5, 0), BAD);
        c.due("row(0, -1, 0)", x.row(0, -1, 0), BAD);
        c.due("row(0, 0, 61)", x.row(0, 0, 61), BAD);
        c.due("row(0, 0, -1)", x.row(0, 0, -1), -14);
        c.due("row(0, 5, -1)", x.row(0, 5, -1), BAD);
        c.due("row(0, 0, MIN)", x.row(0, 0, Integer.MIN_VALUE), -14);
        c.due("nothing is there still", x.put(0, 0, 0), -11);
        c.due("row(0, 0, 0)", x.row(0, 0, 0), 1);
        c.due("no place in it", x.put(0, 0, 0), -13);
        c.due("row(0, 4, 60)", x.row(0, 4, 60), 1);
        c.due("the last place", x.element(0, 59), 0);
        x.put(0, 59, 9);
        c.due("a new row", x.row(0, 4, 60), 1);
        c.due("is 0 at first", x.element(0, 59), 0);
        x.put(0, 3, 1);
        x.row(0, 2, 2);
        x.row(0, 2, 4);
        c.due("also behind a shorter one", x.element(0, 3), 0);
        x.put(0, 1, 77);
        c.due("a refused row", x.row(0, 2, -3), -14);
        c.due("changes nothing", x.element(0, 1), 77);
    }

    private static void elements() {
        OlderSkin x = new OlderSkin();
        x.body(0);
        x.keep(5, 0);
        c.due("put(6, 0, 0)", x.put(6, 0, 0), BAD);
        c.due("put(-1, 0, 0)", x.put(-1, 0, 0), BAD);
        c.due("put on a bare shelf", x.put(0, 0, 0), -11);
        c.due("put on a body", x.put(5, 0, 0), -12);
        c.due("element(6, 0)", x.element(6, 0), Long.MIN_VALUE);
        c.due("element of a bare shelf", x.element(0, 0), Long.MIN_VALUE);
        c.due("element of a body", x.element(5, 0), Long.MIN_VALUE);
        long[] values = {0, 1, -1, 127, 128, 255, 256, -129, 32768, 65536, 1L << 31, 1L << 32, -(1L << 40) + 5,
            Long.MAX_VALUE, Long.MIN_VALUE};
        for (int sort = 0; sort < 5; sort++) {
            x.row(sort, sort, 3);
            c.due("place 3", x.put(sort, 3, 0), -13);
            c.due("place -1", x.put(sort, -1, 0), -13);
            c.due("element 3", x.element(sort, 3), Long.MIN_VALUE);
            c.due("element -1", x.element(sort, -1), Long.MIN_VALUE);
            for (long v : values) {
                long want = sort == 0 ? (byte) v : sort == 1 ? (short) v : sort == 2 ? (int) v : sort == 3 ? v : v != 0 ? 1 : 0;
                c.due("put(" + sort + ", 2, " + v + ")", x.put(sort, 2, v), 1);
                c.due("element of it", x.element(sort, 2), want);
                c.due("the one ahead", x.element(sort, 1), 0);
            }
        }
    }

    private static void shifts() {
        OlderSkin x = new OlderSkin();
        x.row(0, 2, 6);
        x.row(1, 2, 4);
        for (int k = 0; k < 6; k++) {
            x.put(0, k, 10 + k);
        }
        c.due("to another one", x.shift(0, 2, 1, 1, 3), 3);
        long[] got = {0, 12, 13, 14};
        for (int k = 0; k < 4; k++) {
            c.due("other " + k, x.element(1, k), got[k]);
        }
        c.due("forward in the same", x.shift(0, 0, 0, 1, 5), 5);
        long[] forward = {10, 10, 11, 12, 13, 14};
        for (int k = 0; k < 6; k++) {
            c.due("same " + k, x.element(0, k), forward[k]);
        }
        c.due("back in the same", x.shift(0, 2, 0, 0, 4), 4);
        long[] back = {11, 12, 13, 14, 13, 14};
        for (int k = 0; k < 6; k++) {
            c.due("same " + k, x.element(0, k), back[k]);
        }
        c.due("none, at the ends", x.shift(0, 6, 1, 4, 0), 0);
        c.due("none, behind the end", x.shift(0, 7, 1, 4, 0), -13);
        c.due("none, behind the other's end", x.shift(0, 6, 1, 5, 0), -13);
        c.due("all", x.shift(1, 0, 0, 0, 4), 4);
        x.row(4, 3, 60);
        x.row(5, 3, 60);
        x.put(4, 59, Long.MAX_VALUE);
        c.due("sixty", x.shift(4, 0, 5, 0, 60), 60);
        c.due("the last of sixty", x.element(5, 59), Long.MAX_VALUE);
    }

    private static void refusedShifts() {
        OlderSkin x = new OlderSkin();
        x.body(0);
        x.keep(4, 0);
        x.keep(5, 0);
        x.row(0, 2, 6);
        x.row(1, 2, 4);
        x.row(2, 3, 6);
        c.due("shelf 6", x.shift(6, 0, 0, 0, 0), BAD);
        c.due("other 6", x.shift(0, 0, 6, 0, 0), BAD);
        c.due("other -1", x.shift(0, 0, -1, 0, 0), BAD);
        c.due("from a bare one", x.shift(3, 0, 0, 0, 0), -11);
        c.due("to a bare one", x.shift(0, 0, 3, 0, 0), -11);
        c.due("from a body to a bare one", x.shift(4, 0, 3, 0, 0), -11);
        c.due("from a body", x.shift(4, 0, 0, 0, 0), -12);
        c.due("to a body", x.shift(0, 0, 4, 0, 0), -12);
        c.due("both bodies", x.shift(4, 0, 5, 0, 0), -12);
        c.due("unlike sorts", x.shift(0, 0, 2, 0, 0), -12);
        c.due("unlike sorts, places not there", x.shift(0, 99, 2, 0, 0), -12);
        c.due("i below 0", x.shift(0, -1, 1, 0, 1), -13);
        c.due("j below 0", x.shift(0, 0, 1, -1, 1), -13);
        c.due("n below 0", x.shift(0, 1, 1, 1, -1), -13);
        c.due("too many from", x.shift(1, 2, 0, 0, 3), -13);
        c.due("too many to", x.shift(0, 0, 1, 2, 3), -13);
        c.due("far i", x.shift(0, Integer.MAX_VALUE, 1, 0, Integer.MAX_VALUE), -13);
        c.due("far n", x.shift(0, 1, 1, 1, Integer.MAX_VALUE), -13);
        c.due("far below", x.shift(0, Integer.MIN_VALUE, 1, 1, Integer.MIN_VALUE), -13);
    }

    private static void takenFor() {
        OlderSkin x = new OlderSkin();
        int[][] under = {{0}, {1, 0}, {2, 0}, {3, 1, 0}, {4, 2, 0}, {5, 0}, {6, 0}, {7, 6, 0}};
        c.due("taken(-1, 0)", x.taken(-1, 0), BAD);
        c.due("taken(6, 0)", x.taken(6, 0), BAD);
        c.due("taken(0, 8)", x.taken(0, 8), BAD);
        c.due("taken(0, -1)", x.taken(0, -1), BAD);
        c.due("a bare one", x.taken(0, 0), -11);
        for (int kind = 0; kind < 8; kind++) {
            x.body(kind);
            x.keep(0, kind);
            for (int k = 0; k < 8; k++) {
                boolean is = false;
                for (int u : under[kind]) {
                    is |= u == k;
                }
                c.due("kind " + kind + " taken for " + k, x.taken(0, k), is ? kind : -12);
            }
        }
        x.row(0, 0, 1);
        c.due("a row", x.taken(0, 0), -12);
    }

    private static void counts() {
        OlderSkin x = new OlderSkin();
        c.due("count(-1)", x.count(-1), BAD);
        c.due("count(12)", x.count(12), BAD);
        x.sheet(0);
        x.sheet(0);
        for (int k = 0; k < 3; k++) {
            x.hole(0, 0);
        }
        for (int k = 0; k < 4; k++) {
            x.line(0, 0);
        }
        for (int k = 0; k < 5; k++) {
            x.mark(100 * (k % 4) + k / 4, 0);
        }
        for (int k = 0; k < 6; k++) {
            x.dot(0, 0);
        }
        for (int k = 0; k < 7; k++) {
            x.place(0, 0, 0);
        }
        x.map(0, 0);
        Checks.story(x, "1", 0, 1);
        Checks.story(x, "1", 0, 1);
        Checks.feed(x, "12345678");
        for (int k = 0; k < 9; k++) {
            x.age(0, k + 1);
        }
        for (int k = 0; k < 10; k++) {
            x.body(7);
        }
        x.act(0, 3, 0);
        int[] want = {2, 3, 4, 5, 6, 7, 1, 8, 2, 9, 10, 8};
        for (int what = 0; what < want.length; what++) {
            c.due("count(" + what + ")", x.count(what), want[what]);
        }
    }
}
