import java.lang.reflect.Method;
import java.util.ArrayList;
import java.util.Arrays;
import java.util.List;

/** Runs of calls on OlderSkin and on the model: both must answer alike. */
public final class ModelTest {
    private static final Checks c = new Checks("ModelTest");
    private static final List<Method> calls = Draws.publicCalls();
    /** Answers that were no refusal, for each call: a run that only refuses would try nothing. */
    private static final long[] answered = new long[calls.size()];

    public static void main(String[] args) throws Exception {
        texts();
        for (int seed = 0; seed < 600 && c.failures() == 0; seed++) {
            oneRun(seed);
        }
        for (int k = 0; k < answered.length; k++) {
            c.due(calls.get(k).getName() + " was answered often", answered[k] > 100);
        }
        c.end();
    }

    /** Many texts, each on a fresh object: faults and plain weights. */
    private static void texts() {
        Draws draws = new Draws(77);
        for (int k = 0; k < 20000; k++) {
            String text = draws.text();
            OlderSkin x = new OlderSkin();
            Model m = new Model();
            feed(x, m, text);
            c.due("story of '" + text + "'", x.story(9, 1), m.story(9, 1));
            c.due("weight of '" + text + "'", x.odds(0, 0), m.odds(0, 0));
        }
    }

    private static void feed(OlderSkin x, Model m, String text) {
        Checks.feed(x, text);
        for (char ch : text.toCharArray()) {
            m.feed(1, ch);
        }
    }

    private static void oneRun(int seed) throws Exception {
        Draws draws = new Draws(seed);
        OlderSkin x = new OlderSkin();
        Model m = new Model();
        List<String> told = new ArrayList<>();
        prepare(x, m, draws, told);
        int wild = seed % 4 == 0 ? 5 : 1;
        while (told.size() < 500 && c.failures() == 0) {
            if (draws.below(25) == 0) {
                String text = draws.text();
                feed(x, m, text);
                told.add("text '" + text + "'");
                call(x, m, "story", draws.numbers(named("story"), wild), told);
            } else {
                int which = draws.below(calls.size());
                call(x, m, calls.get(which).getName(), draws.numbers(calls.get(which), wild), told);
            }
        }
        if (c.failures() != 0) {
            System.out.println("seed " + seed + ": " + told);
        }
    }

    /** Brings what most calls need, so that few of them are refused. */
    private static void prepare(OlderSkin x, Model m, Draws draws, List<String> told) throws Exception {
        int sheets = draws.below(9);
        for (int k = 0; k < sheets; k++) {
            call(x, m, "sheet", draws.numbers(named("sheet"), 0), told);
        }
        int holes = draws.below(31);
        int spread = draws.below(2) == 0 ? 60 : 1000;
        for (int k = 0; k < holes; k++) {
            call(x, m, "hole", new Object[] {draws.below(Math.max(sheets, 1)), draws.below(spread)}, told);
        }
        int inks = 1 + draws.below(6);
        for (int k = draws.below(12); k > 0; k--) {
            call(x, m, "line", new Object[] {draws.below(Math.max(sheets, 1)), draws.below(inks)}, told);
        }
        for (int k = 0; k < 60; k++) {
            int lh = 100 * draws.below(10) + draws.below(20);
            call(x, m, "mark", new Object[] {lh, draws.below(2)}, told);
        }
        String[] some = {"dot", "place", "map", "body"};
        for (String name : some) {
            for (int k = draws.below(15); k > 0; k--) {
                call(x, m, name, draws.numbers(named(name), 0), told);
            }
        }
        lay(x, m, draws, told);
    }

    private static void lay(OlderSkin x, Model m, Draws draws, List<String> told) throws Exception {
        for (int shelf = 0; shelf < 3; shelf++) {
            call(x, m, "row", new Object[] {shelf, 1 + draws.below(3) / 2, 20 + draws.below(30)}, told);
        }
        for (int k = 0; k < 20; k++) {
            int v = k % 3 == 0 ? draws.below(5) : k % 3 == 1 ? draws.below(8) : draws.below(9999);
            call(x, m, "put", new Object[] {0, k, (long) v}, told);
        }
        for (int shelf = 3; shelf < 6; shelf++) {
            call(x, m, "keep", new Object[] {shelf, draws.below(10)}, told);
        }
        for (int k = 0; k < 10; k++) {
            call(x, m, "shift", draws.numbers(named("shift"), 1), told);
            call(x, m, "taken", draws.numbers(named("taken"), 1), told);
            call(x, m, "fight", draws.numbers(named("fight"), 1), told);
        }
    }

    private static Method named(String name) {
        return calls.get(placeOf(name));
    }

    private static int placeOf(String name) {
        for (int k = 0; k < calls.size(); k++) {
            if (calls.get(k).getName().equals(name)) {
                return k;
            }
        }
        throw new IllegalStateException(name);
    }

    private static void call(OlderSkin x, Model m, String name, Object[] numbers, List<String> told) throws Exception {
        Method call = named(name);
        Method said = Model.class.getDeclaredMethod(name, call.getParameterTypes());
        long got = ((Number) call.invoke(x, numbers)).longValue();
        long want = ((Number) said.invoke(m, numbers)).longValue();
        String what = name + Arrays.toString(numbers);
        told.add(what + " = " + got);
        c.due(what, got, want);
        answered[placeOf(name)] += got >= 0 ? 1 : 0;
    }
}
