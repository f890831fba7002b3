/** Counts answers that are as due, prints those that are not, and ends a test. */
final class Checks {
    private final String name;
    private int passed;
    private int failed;

    Checks(String name) {
        this.name = name;
    }

    void due(String call, long got, long want) {
        if (got == want) {
            passed++;
            return;
        }
        failed++;
        if (failed <= 50) {
            System.out.println(name + ": " + call + " answered " + got + ", due is " + want);
        }
    }

    void due(String what, boolean holds) {
        due(what, holds ? 1 : 0, 1);
    }

    /** Brings a text to the tape, byte by byte in fours; answers what the last feed() did. */
    static int feed(OlderSkin x, String text) {
        int last = 0;
        for (int at = 0; at < text.length(); at += 4) {
            int n = Math.min(4, text.length() - at);
            int v = 0;
            for (int k = n - 1; k >= 0; k--) {
                v = v << 8 | text.charAt(at + k) & 255;
            }
            last = x.feed(n, v);
        }
        return last;
    }

    static int story(OlderSkin x, String text, int year, int prior) {
        feed(x, text);
        return x.story(year, prior);
    }

    int failures() {
        return failed;
    }

    void end() {
        System.out.println(name + ": " + passed + " passed, " + failed + " failed");
        if (failed != 0 || passed == 0) {
            System.exit(1);
        }
    }
}
