import java.util.function.IntUnaryOperator;

/** Counts answers that are as due, prints those that are not, and ends a test. */
final class Checks {
    private final String name;
    private String sentence = "";
    private int passed;
    private int failed;

    Checks(String name) {
        this.name = name;
    }

    void due(String call, long got, long want) {
        if (got == want) {
            passed++;
            return;
        }
        failed++;
        if (failed <= 50) {
            System.out.println(name + ": " + sentence + call + " answered " + got + ", due is " + want);
        }
    }

    void due(String what, boolean holds) {
        due(what, holds ? 1 : 0, 1);
    }

    /** From here on, what is not as due is told with the words of the document that it breaks. */
    void says(String words) {
        sentence = "[" + words + "] ";
    }

    /** A number within low .. high alone: the ends are taken; those just outside, and the farthest, are refused. */
    void range(String call, int low, int high, int refused, IntUnaryOperator answer) {
        int[] inside = {low, low + (high - low) / 2, high};
        for (int v : inside) {
            due(call + " with " + v + " is taken", answer.applyAsInt(v) != refused);
        }
        int[] outside = {Integer.MIN_VALUE, -1000000, low - 2, low - 1, high + 1, high + 2, 1000000, Integer.MAX_VALUE};
        for (int v : outside) {
            due(call + " with " + v, answer.applyAsInt(v), refused);
        }
    }

    /** Brings a text to the tape, byte by byte in fours; answers what the last feed() did. */
    static int feed(OlderSkin x, String text) {
        int last = 0;
        for (int at = 0; at < text.length(); at += 4) {
            int n = Math.min(4, text.length() - at);
            int v = 0;
            for (int k = n - 1; k >= 0; k--) {
                v = v << 8 | text.charAt(at + k) & 255;
            }
            last = x.feed(n, v);
        }
        return last;
    }

    static int story(OlderSkin x, String text, int year, int prior) {
        feed(x, text);
        return x.story(year, prior);
    }

    int failures() {
        return failed;
    }

    void end() {
        System.out.println(name + ": " + passed + " passed, " + failed + " failed");
        if (failed != 0 || passed == 0) {
            System.exit(1);
        }
    }
}
