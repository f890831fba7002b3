import java.lang.reflect.InvocationTargetException;
import java.lang.reflect.Method;
import java.util.Arrays;
import java.util.List;

/** Any numbers in any state: no call throws, and objects live on beyond their 512 calls. */
public final class NeverThrowsTest {
    public static void main(String[] args) throws Exception {
        Checks c = new Checks("NeverThrowsTest");
        List<Method> calls = Draws.publicCalls();
        for (int seed = 0; seed < 300; seed++) {
            Draws draws = new Draws(1000 + seed);
            OlderSkin x = new OlderSkin();
            int wild = seed % 3 == 0 ? 60 : seed % 3 == 1 ? 10 : 0;
            for (int k = 0; k < 3000; k++) {
                if (k % 50 == 0) {
                    Checks.feed(x, draws.text());
                }
                Method call = calls.get(draws.below(calls.size()));
                Object[] numbers = draws.numbers(call, wild);
                c.due(call.getName() + Arrays.toString(numbers), ends(call, x, numbers));
            }
        }
        tapeBeyondAllCalls(c);
        c.end();
    }

    private static boolean ends(Method call, OlderSkin x, Object[] numbers) throws IllegalAccessException {
        try {
            call.invoke(x, numbers);
            return true;
        } catch (InvocationTargetException e) {
            e.getCause().printStackTrace(System.out);
            return false;
        }
    }

    private static void tapeBeyondAllCalls(Checks c) {
        OlderSkin x = new OlderSkin();
        for (int k = 1; k <= 512; k++) {
            c.due("512 calls never fill the tape", x.feed(4, 0x2B312B31), 4 * k);
        }
        for (int k = 0; k < 1000; k++) {
            x.feed(4, 0x2B312B31);
        }
        c.due("a text that ends too early", x.story(0, 1) < -2000);
    }
}
