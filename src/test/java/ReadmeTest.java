import java.lang.reflect.Method;
import java.nio.file.Files;
import java.nio.file.Path;
import java.util.regex.Matcher;
import java.util.regex.Pattern;

/** The calls that README.md shows, in their order on one object, answer what is told behind them. */
public final class ReadmeTest {
    private static final Pattern CALL = Pattern.compile("x\\.(\\w+)\\((.*)\\); +// (-?\\d+)(:.*)?");

    public static void main(String[] args) throws Exception {
        Checks c = new Checks("ReadmeTest");
        OlderSkin x = new OlderSkin();
        for (String line : Files.readAllLines(Path.of("README.md"))) {
            Matcher m = CALL.matcher(line);
            if (m.matches()) {
                c.due(line, answer(x, m.group(1), m.group(2)), Long.parseLong(m.group(3)));
            } else {
                c.due("has no answer that can be read: " + line, !line.startsWith("x."));
            }
        }
        c.end();
    }

    private static long answer(OlderSkin x, String name, String numbers) throws Exception {
        for (Method call : OlderSkin.class.getMethods()) {
            if (call.getName().equals(name)) {
                return ((Number) call.invoke(x, read(call, numbers))).longValue();
            }
        }
        throw new IllegalArgumentException("no call " + name);
    }

    private static Object[] read(Method call, String numbers) {
        Class<?>[] types = call.getParameterTypes();
        String[] parts = numbers.isEmpty() ? new String[0] : numbers.split(", ");
        if (parts.length != types.length) {
            throw new IllegalArgumentException(call + " of " + numbers);
        }
        Object[] all = new Object[parts.length];
        for (int k = 0; k < parts.length; k++) {
            if (types[k] == long.class) {
                all[k] = (long) number(parts[k]);
            } else {
                all[k] = number(parts[k]);
            }
        }
        return all;
    }

    /** A number, or signs that are laid side by side: 'a' | 'b' << 8. */
    private static int number(String text) {
        int bits = 0;
        for (String part : text.split(" \\| ")) {
            String[] shifted = part.split(" << ");
            int v = shifted[0].startsWith("'") ? shifted[0].charAt(1) : Integer.parseInt(shifted[0]);
            bits |= shifted.length > 1 ? v << Integer.parseInt(shifted[1]) : v;
        }
        return bits;
    }
}
