import java.lang.reflect.Method;
import java.util.ArrayList;
import java.util.Arrays;
import java.util.List;
import java.util.Set;

/** "What is answered so changes nothing": refused calls, and calls that only tell, leave all other answers as they were. */
public final class RefusedTest {
    private static final Checks c = new Checks("RefusedTest");
    private static final Set<String> TELL = Set.of("worms", "led", "orders", "side", "without", "fight", "inks", "mean",
        "odd", "chance", "chosen", "bars", "late", "well", "father", "hangs", "shared", "odds", "best", "next", "trace",
        "element", "taken", "count");
    private static final List<Method> calls = Draws.publicCalls();
    private static final int STATES = 3, PARTS = 3;
    private static int tried;

    public static void main(String[] args) throws Exception {
        theFullOneIsFull();
        c.says("What is answered so changes nothing.");
        for (int state = 0; state < STATES; state++) {
            List<List<Long>> before = new ArrayList<>();
            for (int part = 0; part < PARTS; part++) {
                before.add(told(made(state), part));
            }
            for (Method call : calls) {
                for (Object[] numbers : edgesOf(call)) {
                    changesNothing(state, call, numbers, before);
                }
            }
        }
        c.due("many calls were refused: " + tried, tried > 3000);
        c.end();
    }

    private static void theFullOneIsFull() {
        int[] most = {8, 40, 20, 60, 40, 20, 8, 4, 6, 39, 50};
        OlderSkin x = made(2);
        for (int what = 0; what < most.length; what++) {
            c.due("the full state: count(" + what + ")", x.count(what), most[what]);
        }
    }

    /** State 0 is an empty object, 1 has some of all, 2 is full of all. */
    private static OlderSkin made(int state) {
        OlderSkin x = new OlderSkin();
        if (state == 0) {
            return x;
        }
        boolean full = state == 2;
        times(full ? 8 : 3, k -> x.sheet(1400 + 10 * k));
        times(full ? 40 : 6, k -> x.hole(k % 3, 17 * (k / 3)));
        times(full ? 20 : 4, k -> x.line(k % 3, k % 6));
        times(full ? 60 : 5, k -> x.mark(full ? 300 * (k / 14) + 3 * (k % 14) : 101 * (k % 3), k % 2));
        times(full ? 20 : 7, k -> x.dot(10 * (k % 5) + k % 8, 100 * k));
        times(full ? 20 : 2, k -> x.place(1000 + 50 * k, 5050, 100 * k + 7 * k));
        times(full ? 8 : 3, k -> x.map(1400 + 10 * k, 1 << k | 3));
        times(full ? 50 : 3, k -> x.body(k % 8));
        x.made(1900, 150);
        Checks.story(x, "s+1", 1434, 50);
        Checks.story(x, "y?2;o+r*3", 1440, 30);
        times(full ? 4 : 1, k -> Checks.story(x, "a+l+f", 1450 + k, 10));
        shelvesOf(x);
        times(full ? 7 : 0, k -> x.dots(4, 0, 3));
        times(full ? 41 : 2, k -> x.mend(0, 7 + k));
        x.age(0, 1500);
        x.prior(1, 31);
        x.undo();
        Checks.feed(x, "1+o;");
        x.act(1, 3, 5);
        return x;
    }

    private interface Step {
        int at(int k);
    }

    private static void times(int n, Step step) {
        for (int k = 0; k < n; k++) {
            step.at(k);
        }
    }

    /** Shelf 0 holds nothing, 1 a body, 2 and 3 rows of ints, 4 one of shorts, 5 an empty one. */
    private static void shelvesOf(OlderSkin x) {
        x.keep(1, 2);
        x.row(2, 2, 4);
        x.row(3, 2, 3);
        x.row(4, 1, 9);
        x.row(5, 2, 0);
        times(4, k -> x.put(2, k, 20 + k));
        times(9, k -> x.put(4, k, k % 3));
    }

    /** What an object tells, in three parts, so that each stays within the 512 calls of an object. */
    private static List<Long> told(OlderSkin x, int part) {
        List<Long> all = new ArrayList<>();
        for (int what = 0; what <= 11; what++) {
            all.add((long) x.count(what));
        }
        if (part == 0) {
            tellSheets(x, all);
        } else if (part == 1) {
            tellDots(x, all);
        } else {
            tellStories(x, all);
        }
        return all;
    }

    private static void tellSheets(OlderSkin x, List<Long> all) {
        for (int i = -1; i < 12; i++) {
            all.add((long) x.worms(9, i));
        }
        for (int hole = 0; hole < 40; hole += 3) {
            all.add((long) x.led(hole, 9));
        }
        for (int what = 0; what <= 1; what++) {
            all.add((long) x.orders(9, what));
            all.add((long) x.fight(9, what));
        }
        for (int ij = -2; ij <= 55; ij++) {
            all.add((long) x.inks(9, ij));
        }
        // an age that is told anew answers what it was
        for (int sheet = 0; sheet < 8; sheet++) {
            all.add((long) x.age(sheet, 1999));
        }
    }

    private static void tellDots(OlderSkin x, List<Long> all) {
        for (int hi = 0; hi <= 57; hi++) {
            all.add((long) x.mean(hi));
        }
        for (int ink = 0; ink <= 6; ink++) {
            all.add((long) x.odd(ink));
            all.add((long) x.chance(ink, 3, 9));
            all.add((long) x.bars(ink, 1899));
        }
        for (int year = 1000; year <= 2000; year += 100) {
            all.add((long) x.late(year, 1));
        }
        all.add((long) x.well(1000, 5, 50));
        for (int map = 0; map < 8; map++) {
            all.add((long) x.father(map, 0));
            all.add((long) x.father(map, 1));
        }
        all.add((long) x.shared(-1));
        all.add((long) x.shared(1));
        all.add((long) x.made(5, 5));
    }

    private static void tellStories(OlderSkin x, List<Long> all) {
        for (int story = 0; story < 6; story++) {
            all.add((long) x.odds(story, 0));
            all.add((long) x.odds(story, 1));
        }
        all.add((long) x.best());
        all.add((long) x.next(500, 1));
        for (int i = 0; i < 9; i++) {
            all.add((long) x.trace(i));
        }
        for (int shelf = 0; shelf < 6; shelf++) {
            all.add((long) x.taken(shelf, 0));
            for (int i = 0; i < 10; i++) {
                all.add(x.element(shelf, i));
            }
            all.add((long) x.shift(shelf, 0, shelf, 0, 0));
        }
        all.add((long) x.redo());
        for (int k = 0; k < 4; k++) {
            all.add((long) x.undo());
        }
        all.add((long) x.mean(0));
        all.add((long) x.story(0, 1));
    }

    private static boolean isRefused(String name, long answer) {
        if (name.equals("act")) {
            return false;
        }
        boolean named = answer >= -5 && answer <= -1 || answer >= -14 && answer <= -11;
        return TELL.contains(name) || named;
    }

    private static void changesNothing(int state, Method call, Object[] numbers, List<List<Long>> before) throws Exception {
        long answer = ((Number) call.invoke(made(state), numbers)).longValue();
        if (!isRefused(call.getName(), answer)) {
            return;
        }
        tried++;
        for (int part = 0; part < PARTS; part++) {
            OlderSkin x = made(state);
            call.invoke(x, numbers);
            List<Long> after = told(x, part);
            String what = "state " + state + ", " + call.getName() + Arrays.toString(numbers) + " = " + answer;
            c.due(what + ", part " + part, after.equals(before.get(part)));
        }
    }

    /** Numbers at and about the ends of each range, all with all. */
    private static List<Object[]> edgesOf(Method call) {
        int[] ranges = Draws.rangesOf(call.getName());
        Class<?>[] types = call.getParameterTypes();
        List<Object[]> all = new ArrayList<>();
        all.add(new Object[types.length]);
        for (int k = 0; k < types.length; k++) {
            int low = ranges[2 * k];
            int high = ranges[2 * k + 1];
            int[] few = {-1, 0, 2, 4};
            int[] many = {Integer.MIN_VALUE, low - 1, low, high, high + 1, Integer.MAX_VALUE};
            List<Object[]> more = new ArrayList<>();
            for (Object[] so : all) {
                for (int v : types.length > 3 ? few : many) {
                    Object[] with = so.clone();
                    with[k] = types[k] == long.class ? (Object) Long.valueOf(v) : (Object) Integer.valueOf(v);
                    more.add(with);
                }
            }
            all = more;
        }
        return all;
    }
}
