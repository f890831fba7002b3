import java.lang.reflect.Method;
import java.lang.reflect.Modifier;
import java.util.ArrayList;
import java.util.Comparator;
import java.util.List;
import java.util.Random;

/** Draws calls with fitting, nearly fitting and wild numbers; the same seed always draws the same. */
final class Draws {
    private final Random random;
    /** Low and high for each number of each call; what is drawn goes one beyond at times. */
    private static final String[] RANGES = {
        "sheet 0 2000", "age 0 7 0 2000", "hole 0 7 0 999", "worms 0 99 -1 20", "led 0 39 0 99", "orders 0 99 0 1",
        "side 0 99 0 77 0 1", "without 0 99 0 7", "line 0 7 0 5", "mark 0 1999 0 1", "fight 0 99 0 1",
        "inks 0 99 -2 55", "dot 0 47 0 9999", "mend 0 39 0 9999", "dots 0 5 0 20 1 20", "mean 0 57", "odd 0 6",
        "chance 0 6 -9 9999 1 50", "chosen 0 4", "made 0 2001 0 9999", "bars 0 5 0 2000", "place 0 2000 0 9999 0 9999",
        "late 0 2000 0 1", "well 0 2000 -9 9999 1 50", "map 0 2000 0 65535", "father 0 7 0 1", "hangs 0 77",
        "shared -1 77", "feed 1 4 0 127", "story 0 2000 1 99", "prior 0 5 1 99", "odds 0 5 0 1", "best",
        "next 0 9999 0 1", "undo", "redo", "body 0 7", "act 0 49 0 3 -99 99", "trace 0 9", "keep 0 5 -1 49",
        "row 0 5 0 4 0 60", "put 0 5 0 59 -99 40000", "element 0 5 0 59", "shift 0 5 0 20 0 5 0 20 0 30", "taken 0 5 0 7",
        "count 0 11",
    };

    Draws(long seed) {
        random = new Random(seed);
    }

    static List<Method> publicCalls() {
        List<Method> calls = new ArrayList<>();
        for (Method m : OlderSkin.class.getDeclaredMethods()) {
            if (Modifier.isPublic(m.getModifiers())) {
                calls.add(m);
            }
        }
        calls.sort(Comparator.comparing(Method::getName));
        return calls;
    }

    static int[] rangesOf(String name) {
        for (String r : RANGES) {
            String[] parts = r.split(" ");
            if (parts[0].equals(name)) {
                int[] found = new int[parts.length - 1];
                for (int k = 0; k < found.length; k++) {
                    found[k] = Integer.parseInt(parts[k + 1]);
                }
                return found;
            }
        }
        throw new IllegalStateException("no ranges for " + name);
    }

    int below(int n) {
        return random.nextInt(n);
    }

    /** Numbers for a call; wild is how many of a hundred numbers are just any. */
    Object[] numbers(Method call, int wild) {
        int[] ranges = rangesOf(call.getName());
        Class<?>[] types = call.getParameterTypes();
        Object[] drawn = new Object[types.length];
        for (int k = 0; k < types.length; k++) {
            long v = number(ranges[2 * k], ranges[2 * k + 1], wild);
            if (types[k] == long.class) {
                drawn[k] = random.nextInt(10) == 0 ? Long.valueOf(random.nextLong()) : Long.valueOf(v);
            } else {
                drawn[k] = Integer.valueOf((int) v);
            }
        }
        return drawn;
    }

    private int number(int low, int high, int wild) {
        if (random.nextInt(100) < wild) {
            int[] any = {Integer.MIN_VALUE, Integer.MAX_VALUE, -1, -2, 0, low - 1, high + 1, random.nextInt()};
            return any[random.nextInt(any.length)];
        }
        switch (random.nextInt(12)) {
            case 0: return low;
            case 1: return high;
            case 2: return low + Math.min(high - low, random.nextInt(4));
            default: return low + random.nextInt(high - low + 1);
        }
    }

    /** A text of stories; now and then one with a fault. */
    String text() {
        StringBuilder text = new StringBuilder();
        int n = 1 + random.nextInt(3);
        for (int k = 0; k < n; k++) {
            text.append(k == 0 ? "" : ";");
            if (random.nextInt(3) > 0) {
                expression(text, 0, 3);
                text.append('?');
            }
            expression(text, 0, 3);
        }
        if (random.nextInt(5) == 0) {
            String signs = "0123456789orsblyfa|&<=>+-*/%!();?? q";
            int at = random.nextInt(text.length());
            char sign = signs.charAt(random.nextInt(signs.length()));
            switch (random.nextInt(3)) {
                case 0: text.setCharAt(at, sign); break;
                case 1: text.insert(at, sign); break;
                default: text.deleteCharAt(at);
            }
        }
        return text.toString();
    }

    private void expression(StringBuilder text, int level, int deep) {
        String[] signs = {"|", "&", "<=>", "+-", "*/%"};
        if (level == signs.length) {
            operand(text, deep);
            return;
        }
        expression(text, level + 1, deep);
        int more = random.nextInt(4) == 0 ? 1 + (level == 2 ? 0 : random.nextInt(2)) : 0;
        for (int k = 0; k < more; k++) {
            text.append(signs[level].charAt(random.nextInt(signs[level].length())));
            expression(text, level + 1, deep - 1);
        }
    }

    private void operand(StringBuilder text, int deep) {
        int sort = random.nextInt(10);
        if (sort < 5 || deep <= 0) {
            text.append("orsblyfassbb".charAt(random.nextInt(12)));
        } else if (sort < 7) {
            text.append(random.nextInt(random.nextInt(3) == 0 ? 10000 : 50));
        } else if (sort == 7) {
            text.append('(');
            expression(text, 0, deep - 1);
            text.append(')');
        } else {
            text.append(sort == 8 ? '!' : '-');
            operand(text, deep - 1);
        }
    }
}
