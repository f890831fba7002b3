import java.util.ArrayDeque;
import java.util.ArrayList;
import java.util.Comparator;
import java.util.Deque;
import java.util.HashSet;
import java.util.LinkedHashMap;
import java.util.List;
import java.util.Map;
import java.util.Set;
import java.util.TreeMap;
import java.util.stream.Collectors;
import java.util.stream.IntStream;

/** The document told a second time, by brute force and with the whole library, to hold OlderSkin against. */
final class Model {
    private static final int BAD = -1, NOT = -2, FULL = -3, BIG = -4, STATE = -5, VOID = -2000000000;

    private record Hole(int number, int sheet, int place) { }

    private record Line(int sheet, int ink) { }

    private record Place(int known, int truly, int drawn) { }

    private record Chart(int number, int year, int slips) { }

    private record Thing(int kind, Object row) { }

    private static final class Dot {
        final int house;
        final int ink;
        int stuff;

        Dot(int house, int ink, int stuff) {
            this.house = house;
            this.ink = ink;
            this.stuff = stuff;
        }
    }

    private static final class Tale {
        String text;
        int year;
        int prior;
    }

    private record Change(char sort, int which, int was, int became) { }

    private final List<Integer> ages = new ArrayList<>();
    private final List<Hole> holes = new ArrayList<>();
    private final List<Line> lines = new ArrayList<>();
    private final Map<Integer, Integer> marks = new LinkedHashMap<>();
    private final List<Dot> dotList = new ArrayList<>();
    private int madeIn = 2001;
    private int bound = 9999;
    private final List<Place> places = new ArrayList<>();
    private final List<Chart> maps = new ArrayList<>();
    private final StringBuilder tape = new StringBuilder();
    private final List<Tale> tales = new ArrayList<>();
    private final Deque<Change> undos = new ArrayDeque<>();
    private final Deque<Change> redos = new ArrayDeque<>();
    private final List<Integer> kinds = new ArrayList<>();
    private final List<Integer> ran = new ArrayList<>();
    private final Thing[] shelves = new Thing[6];

    private static boolean in(int v, int low, int high) {
        return v >= low && v <= high;
    }

    // ---- sheets, holes

    int sheet(int age) {
        if (!in(age, 0, 2000)) return BAD;
        if (ages.size() == 8) return FULL;
        ages.add(age);
        return ages.size() - 1;
    }

    int age(int sheet, int v) {
        if (!in(sheet, 0, ages.size() - 1) || !in(v, 0, 2000)) return BAD;
        return changed('a', sheet, v);
    }

    int hole(int sheet, int place) {
        if (!in(sheet, 0, ages.size() - 1) || !in(place, 0, 999)) return BAD;
        if (holes.size() == 40) return FULL;
        holes.add(new Hole(holes.size(), sheet, place));
        return holes.size() - 1;
    }

    private List<List<Hole>> wormsBy(int slack, int missing) {
        List<Hole> sorted = holes.stream().filter(h -> h.sheet != missing)
            .sorted(Comparator.comparingInt(Hole::place).thenComparingInt(Hole::number)).collect(Collectors.toList());
        List<List<Hole>> worms = new ArrayList<>();
        Hole ahead = null;
        for (Hole h : sorted) {
            List<Hole> last = worms.isEmpty() ? null : worms.get(worms.size() - 1);
            if (ahead == null || h.place > ahead.place + slack || last.stream().anyMatch(o -> o.sheet == h.sheet)) {
                last = new ArrayList<>();
                worms.add(last);
            }
            last.add(h);
            ahead = h;
        }
        return worms;
    }

    int worms(int slack, int i) {
        if (!in(slack, 0, 99)) return BAD;
        List<List<Hole>> worms = wormsBy(slack, -1);
        if (i == -1) return worms.size();
        if (!in(i, 0, worms.size() - 1)) return BAD;
        return worms.get(i).stream().mapToInt(h -> 1 << h.sheet).sum();
    }

    private int wormOf(int hole, int slack) {
        List<List<Hole>> worms = wormsBy(slack, -1);
        for (int k = 0; k < worms.size(); k++) {
            for (Hole h : worms.get(k)) {
                if (h.number == hole) return k;
            }
        }
        throw new IllegalStateException();
    }

    int led(int hole, int slack) {
        if (!in(hole, 0, holes.size() - 1) || !in(slack, 0, 99)) return BAD;
        return wormOf(hole, slack);
    }

    private static void permute(List<Integer> left, List<Integer> so, List<List<Integer>> all) {
        if (left.isEmpty()) {
            all.add(new ArrayList<>(so));
        }
        for (Integer s : left) {
            List<Integer> rest = new ArrayList<>(left);
            rest.remove(s);
            so.add(s);
            permute(rest, so, all);
            so.remove(so.size() - 1);
        }
    }

    private List<List<Integer>> ordersBy(int slack, int missing) {
        List<Integer> those = IntStream.range(0, ages.size()).filter(s -> s != missing).boxed()
            .collect(Collectors.toList());
        List<List<Integer>> all = new ArrayList<>();
        permute(those, new ArrayList<>(), all);
        for (List<Hole> worm : wormsBy(slack, missing)) {
            all.removeIf(order -> {
                int low = worm.stream().mapToInt(h -> order.indexOf(h.sheet)).min().getAsInt();
                int high = worm.stream().mapToInt(h -> order.indexOf(h.sheet)).max().getAsInt();
                return high - low + 1 != worm.size();
            });
        }
        return all;
    }

    int orders(int slack, int what) {
        if (!in(slack, 0, 99) || !in(what, 0, 1)) return BAD;
        if (ages.size() > 6) return BIG;
        List<List<Integer>> all = ordersBy(slack, -1);
        if (what == 0) return all.size();
        if (all.isEmpty()) return NOT;
        int digits = 0;
        for (int s : all.get(0)) {
            digits = digits * 10 + s + 1;
        }
        return digits;
    }

    int side(int slack, int st, int what) {
        if (!in(slack, 0, 99) || st < 0 || !in(what, 0, 1)) return BAD;
        int s = st / 10;
        int t = st % 10;
        if (s >= ages.size() || t >= ages.size() || s == t) return BAD;
        if (ages.size() > 6) return BIG;
        List<List<Integer>> all = ordersBy(slack, -1);
        if (all.isEmpty()) return NOT;
        long near = all.stream().filter(o -> Math.abs(o.indexOf(s) - o.indexOf(t)) == 1).count();
        return (what == 0 ? near == all.size() : near != 0) ? 1 : 0;
    }

    int without(int slack, int sheet) {
        if (!in(slack, 0, 99) || !in(sheet, 0, ages.size() - 1)) return BAD;
        if (ages.size() == 8) return BIG;
        return ordersBy(slack, sheet).size();
    }

    // ---- lines, inks

    int line(int sheet, int ink) {
        if (!in(sheet, 0, ages.size() - 1) || !in(ink, 0, 5)) return BAD;
        if (lines.size() == 20) return FULL;
        lines.add(new Line(sheet, ink));
        return lines.size() - 1;
    }

    int mark(int lh, int over) {
        if (lh < 0 || !in(over, 0, 1) || lh / 100 >= lines.size() || lh % 100 >= holes.size()) return BAD;
        if (lines.get(lh / 100).sheet != holes.get(lh % 100).sheet) return BAD;
        if (marks.size() == 60 && !marks.containsKey(lh)) return FULL;
        marks.put(lh, over);
        return marks.size();
    }

    /** The worm of a fight of the first such line, with 100 times the line. */
    private int fightBy(int slack) {
        Map<Integer, Integer> found = new TreeMap<>();
        marks.forEach((a, over) -> marks.forEach((b, other) -> {
            boolean alike = lines.get(a / 100).ink == lines.get(b / 100).ink;
            if (over == 1 && other == 0 && alike && wormOf(a % 100, slack) == wormOf(b % 100, slack)) {
                found.put(100 * (a / 100) + wormOf(a % 100, slack), 1);
            }
        }));
        return found.isEmpty() ? NOT : found.keySet().iterator().next();
    }

    int fight(int slack, int what) {
        if (!in(slack, 0, 99) || !in(what, 0, 1)) return BAD;
        int found = fightBy(slack);
        return found == NOT ? NOT : what == 0 ? found / 100 : found % 100;
    }

    private Set<Integer> aheadBy(int slack) {
        Set<Integer> pairs = new HashSet<>();
        marks.forEach((a, over) -> marks.forEach((b, other) -> {
            if (over == 1 && other == 0 && wormOf(a % 100, slack) == wormOf(b % 100, slack)) {
                pairs.add(10 * lines.get(a / 100).ink + lines.get(b / 100).ink);
            }
        }));
        pairs.removeIf(p -> p % 11 == 0);
        return pairs;
    }

    int inks(int slack, int ij) {
        if (!in(slack, 0, 99)) return BAD;
        Set<Integer> pairs = aheadBy(slack);
        if (ij == -1) {
            return lines.stream().map(Line::ink).filter(i -> pairs.stream().noneMatch(p -> p % 10 == i))
                .min(Integer::compare).orElse(NOT);
        }
        if (ij == -2) {
            return pairs.stream().filter(p -> pairs.contains(p % 10 * 10 + p / 10)).min(Integer::compare).orElse(NOT);
        }
        if (ij < 0 || ij / 10 > 5 || ij % 10 > 5 || ij / 10 == ij % 10) return BAD;
        return pairs.contains(ij) ? 1 : 0;
    }

    // ---- dots

    private static boolean dotIsSo(int house, int ink, int stuff) {
        return in(house, 0, 4) && in(ink, 0, 7) && in(stuff, 0, 9999);
    }

    int dot(int hi, int stuff) {
        if (hi < 0 || !dotIsSo(hi / 10, hi % 10, stuff)) return BAD;
        if (dotList.size() == 40) return FULL;
        dotList.add(new Dot(hi / 10, hi % 10, stuff));
        return dotList.size() - 1;
    }

    int mend(int dot, int v) {
        if (!in(dot, 0, dotList.size() - 1) || !in(v, 0, 9999)) return BAD;
        return changed('s', dot, v);
    }

    int dots(int shelf, int i, int n) {
        if (!in(shelf, 0, 5) || !in(n, 1, 20)) return BAD;
        if (shelves[shelf] == null) return 0;
        if (!(shelves[shelf].row instanceof short[])) return -12;
        short[] row = (short[]) shelves[shelf].row;
        int came = 0;
        while (came < n) {
            long at = i + 3L * came;
            if (at < 0 || at + 2 >= row.length || dotList.size() == 40) break;
            int p = (int) at;
            if (!dotIsSo(row[p], row[p + 1], row[p + 2])) break;
            dotList.add(new Dot(row[p], row[p + 1], row[p + 2]));
            came++;
        }
        return came;
    }

    private static int meanOf(List<Dot> those) {
        return those.isEmpty() ? NOT : those.stream().mapToInt(d -> d.stuff).sum() / those.size();
    }

    private List<Dot> dotsIn(int lowInk, int highInk) {
        return dotList.stream().filter(d -> in(d.ink, lowInk, highInk)).collect(Collectors.toList());
    }

    int mean(int hi) {
        if (hi < 0 || hi / 10 > 5 || hi % 10 > 7) return BAD;
        List<Dot> those = dotsIn(hi % 10, hi % 10);
        those.removeIf(d -> hi / 10 != 5 && d.house != hi / 10);
        return meanOf(those);
    }

    int odd(int ink) {
        if (!in(ink, 0, 6)) return BAD;
        return (int) dotsIn(ink, ink).stream()
            .filter(d -> dotsIn(7, 7).stream().allMatch(o -> d.stuff > o.stuff)).count();
    }

    int chance(int ink, int seed, int n) {
        if (!in(ink, 0, 6) || !in(n, 1, 50)) return BAD;
        if (dotsIn(ink, ink).isEmpty() || dotsIn(7, 7).isEmpty()) return NOT;
        List<Dot> both = dotList.stream().filter(d -> d.ink == ink || d.ink == 7).collect(Collectors.toList());
        int[] stuffs = both.stream().mapToInt(d -> d.stuff).toArray();
        int real = dotsIn(ink, ink).stream().mapToInt(d -> d.stuff).sum();
        int z = seed;
        int often = 0;
        for (int k = 0; k < n; k++) {
            for (int p = stuffs.length; --p > 0;) {
                z = (int) (z * 1103515245L + 12345L);
                int j = (z >>> 8) % (p + 1);
                int held = stuffs[j];
                stuffs[j] = stuffs[p];
                stuffs[p] = held;
            }
            if (IntStream.range(0, stuffs.length).filter(p -> both.get(p).ink == ink).map(p -> stuffs[p]).sum() >= real) {
                often++;
            }
        }
        return often;
    }

    int chosen(int house) {
        if (!in(house, 0, 4)) return VOID;
        List<Dot> its = dotsIn(0, 5);
        List<Dot> others = dotsIn(0, 5);
        its.removeIf(d -> d.house != house);
        others.removeIf(d -> d.house == house);
        return its.isEmpty() || others.isEmpty() ? VOID : meanOf(its) - meanOf(others);
    }

    int made(int year, int newBound) {
        if (!in(year, 0, 2001) || !in(newBound, 0, 9999)) return BAD;
        int was = madeIn;
        madeIn = year;
        bound = newBound;
        return was;
    }

    int bars(int ink, int year) {
        if (!in(ink, 0, 5) || !in(year, 0, 2000)) return BAD;
        int mean = mean(50 + ink);
        return madeIn < 2001 && mean != NOT && mean > bound && year < madeIn ? 1 : 0;
    }

    // ---- places, maps

    int place(int known, int truly, int drawn) {
        if (!in(known, 0, 2000) || !in(truly, 0, 9999) || !in(drawn, 0, 9999)) return BAD;
        if (places.size() == 20) return FULL;
        places.add(new Place(known, truly, drawn));
        return places.size() - 1;
    }

    private List<Place> lateBy(int year) {
        return places.stream().filter(p -> p.known > year).collect(Collectors.toList());
    }

    private static int apart(int one, int other) {
        return Math.abs(one / 100 - other / 100) + Math.abs(one % 100 - other % 100);
    }

    int late(int year, int what) {
        if (!in(year, 0, 2000) || !in(what, 0, 1)) return BAD;
        return what == 0 ? lateBy(year).size() : lateBy(year).stream().mapToInt(p -> apart(p.truly, p.drawn)).sum();
    }

    int well(int year, int seed, int n) {
        if (!in(year, 0, 2000) || !in(n, 1, 50)) return BAD;
        if (lateBy(year).isEmpty()) return NOT;
        int z = seed;
        int often = 0;
        for (int k = 0; k < n; k++) {
            int off = 0;
            for (Place p : lateBy(year)) {
                z = (int) (z * 1103515245L + 12345L);
                int x = (z >>> 8) % 100;
                z = (int) (z * 1103515245L + 12345L);
                off += apart(p.truly, 100 * x + (z >>> 8) % 100);
            }
            if (off <= late(year, 1)) {
                often++;
            }
        }
        return often;
    }

    int map(int year, int slips) {
        if (!in(year, 0, 2000) || !in(slips, 0, 65535)) return BAD;
        if (maps.size() == 8) return FULL;
        maps.add(new Chart(maps.size(), year, slips));
        return maps.size() - 1;
    }

    private static int bitsApart(Chart one, Chart other) {
        return Integer.bitCount(one.slips ^ other.slips);
    }

    private Chart fatherOf(Chart m) {
        return maps.stream().filter(o -> o.year < m.year)
            .min(Comparator.<Chart>comparingInt(o -> bitsApart(o, m)).thenComparingInt(o -> -o.year)
                .thenComparingInt(Chart::number)).orElse(null);
    }

    int father(int map, int what) {
        if (!in(map, 0, maps.size() - 1) || !in(what, 0, 1)) return BAD;
        Chart father = fatherOf(maps.get(map));
        return father == null ? NOT : what == 0 ? father.number : bitsApart(father, maps.get(map));
    }

    int hangs(int mn) {
        if (mn < 0 || mn / 10 >= maps.size() || mn % 10 >= maps.size()) return BAD;
        for (Chart m = fatherOf(maps.get(mn / 10)); m != null; m = fatherOf(m)) {
            if (m.number == mn % 10) return 1;
        }
        return 0;
    }

    int shared(int mn) {
        if (mn == -1) {
            return maps.stream().filter(m -> fatherOf(m) != null).mapToInt(m -> bitsApart(m, fatherOf(m))).sum();
        }
        if (mn < 0 || mn / 10 >= maps.size() || mn % 10 >= maps.size() || mn / 10 == mn % 10) return BAD;
        int bits = 0;
        for (int b = 0; b < 16; b++) {
            int bit = b;
            String have = maps.stream().filter(m -> (m.slips >> bit & 1) == 1).map(m -> "" + m.number)
                .collect(Collectors.joining(","));
            int low = Math.min(mn / 10, mn % 10);
            int high = Math.max(mn / 10, mn % 10);
            bits |= have.equals(low + "," + high) ? 1 << bit : 0;
        }
        return bits;
    }

    // ---- stories

    int feed(int n, int v) {
        if (!in(n, 1, 4)) return BAD;
        for (int k = 0; k < n; k++) {
            tape.append((char) (v >>> 8 * k & 255));
        }
        return tape.length();
    }

    /** Goes over the text once, with what is open told by a stack; answers the fault, or -1. */
    static int faultOf(String text) {
        Deque<Integer> outer = new ArrayDeque<>();
        int prefixes = 0;
        int digits = 0;
        boolean operand = true;
        boolean compared = false;
        boolean asked = false;
        Deque<Boolean> outerCompared = new ArrayDeque<>();
        for (int at = 0; at < text.length(); at++) {
            char ch = text.charAt(at);
            int open = outer.size() + prefixes + outer.stream().mapToInt(v -> v).sum();
            if (operand) {
                if ("(!-".indexOf(ch) >= 0) {
                    if (open >= 6) return at;
                    if (ch == '(') {
                        outer.push(prefixes);
                        outerCompared.push(compared);
                        prefixes = 0;
                        compared = false;
                    } else {
                        prefixes++;
                    }
                } else if ("orsblyfa0123456789".indexOf(ch) >= 0) {
                    digits = Character.isLetter(ch) ? 9 : 1;
                    operand = false;
                    prefixes = 0;
                } else {
                    return at;
                }
                continue;
            }
            if (ch >= '0' && ch <= '9') {
                if (++digits > 4) return at;
                continue;
            }
            digits = 9;
            if (ch == ')') {
                if (outer.isEmpty()) return at;
                outer.pop();
                prefixes = 0;
                compared = outerCompared.pop();
            } else if ("*/%+-".indexOf(ch) >= 0) {
                operand = true;
            } else if ("<=>".indexOf(ch) >= 0) {
                if (compared) return at;
                compared = true;
                operand = true;
            } else if ("|&".indexOf(ch) >= 0) {
                compared = false;
                operand = true;
            } else if (ch == '?' || ch == ';') {
                if (!outer.isEmpty() || ch == '?' && asked) return at;
                asked = ch == '?';
                compared = false;
                operand = true;
            } else {
                return at;
            }
        }
        return operand || !outer.isEmpty() ? text.length() : -1;
    }

    int story(int year, int prior) {
        if (!in(year, 0, 2000) || !in(prior, 1, 99)) return BAD;
        if (tales.size() == 6) return FULL;
        Tale tale = new Tale();
        tale.text = tape.toString();
        tale.year = year;
        tale.prior = prior;
        tape.setLength(0);
        int fault = faultOf(tale.text);
        if (fault >= 0) return -100 - fault;
        tales.add(tale);
        return tales.size() - 1;
    }

    int prior(int story, int v) {
        if (!in(story, 0, tales.size() - 1) || !in(v, 1, 99)) return BAD;
        return changed('p', story, v);
    }

    private int named(char name, int year) {
        switch (name) {
            case 'o': return (int) marks.values().stream().filter(v -> v == 1).count();
            case 'r': return (int) marks.values().stream().filter(v -> v == 0).count();
            case 's': return dotsIn(0, 5).isEmpty() ? 0 : meanOf(dotsIn(0, 5));
            case 'b': return dotsIn(7, 7).isEmpty() ? 0 : meanOf(dotsIn(7, 7));
            case 'l': return lateBy(year).size();
            case 'y': return IntStream.range(0, 6).anyMatch(i -> bars(i, year) == 1) ? 1 : 0;
            case 'f': return fightBy(5) == NOT ? 0 : 1;
            default: return ages.stream().mapToInt(a -> Math.max(0, a - year)).max().orElse(0);
        }
    }

    /** The value of an E, by its last sign of the lowest kind that stands outside of all brackets. */
    private int value(String e, int year) {
        for (String signs : new String[] {"|", "&", "<=>", "+-", "*/%"}) {
            int depth = 0;
            for (int at = e.length() - 1; at > 0; at--) {
                char ch = e.charAt(at);
                depth += ch == ')' ? 1 : ch == '(' ? -1 : 0;
                char ahead = e.charAt(at - 1);
                boolean joins = Character.isLetterOrDigit(ahead) || ahead == ')';
                if (depth == 0 && joins && signs.indexOf(ch) >= 0) {
                    return joined(ch, value(e.substring(0, at), year), value(e.substring(at + 1), year));
                }
            }
        }
        char first = e.charAt(0);
        if (first == '!') return value(e.substring(1), year) == 0 ? 1 : 0;
        if (first == '-') return -value(e.substring(1), year);
        if (first == '(') return value(e.substring(1, e.length() - 1), year);
        return Character.isDigit(first) ? Integer.parseInt(e) : named(first, year);
    }

    private static int joined(char sign, int a, int b) {
        switch (sign) {
            case '|': return a == 0 && b == 0 ? 0 : 1;
            case '&': return a == 0 || b == 0 ? 0 : 1;
            case '<': return a < b ? 1 : 0;
            case '=': return a == b ? 1 : 0;
            case '>': return a > b ? 1 : 0;
            case '+': return (int) ((long) a + b);
            case '-': return (int) ((long) a - b);
            case '*': return (int) ((long) a * b);
            case '/': return b == 0 ? 0 : (int) ((long) a / b);
            default: return b == 0 ? 0 : (int) ((long) a % b);
        }
    }

    private int weight(Tale tale) {
        int found = 0;
        for (String line : tale.text.split(";")) {
            int ask = line.indexOf('?');
            if (ask < 0 || value(line.substring(0, ask), tale.year) != 0) {
                found = value(line.substring(ask + 1), tale.year);
                break;
            }
        }
        return Math.max(0, Math.min(9999, found));
    }

    private long sumOfAll() {
        return tales.stream().mapToLong(t -> (long) t.prior * weight(t)).sum();
    }

    private int oddsOf(Tale tale, int otherwise) {
        long sum = sumOfAll();
        return sum == 0 ? otherwise : (int) (1000L * tale.prior * weight(tale) / sum);
    }

    int odds(int story, int what) {
        if (!in(story, 0, tales.size() - 1) || !in(what, 0, 1)) return BAD;
        return what == 0 ? weight(tales.get(story)) : oddsOf(tales.get(story), NOT);
    }

    int best() {
        if (tales.isEmpty()) return STATE;
        long most = tales.stream().mapToLong(t -> (long) t.prior * weight(t)).max().getAsLong();
        return IntStream.range(0, tales.size())
            .filter(k -> (long) tales.get(k).prior * weight(tales.get(k)) == most).findFirst().getAsInt();
    }

    int next(int h, int what) {
        if (!in(h, 0, 9999) || !in(what, 0, 1)) return BAD;
        if (tales.isEmpty() || dotList.size() == 40) return STATE;
        if (sumOfAll() == 0) return NOT;
        Tale tale = tales.get(best());
        int now = oddsOf(tale, 0);
        int[] moved = new int[8];
        for (int ink = 0; ink < 8; ink++) {
            for (int stuff : new int[] {0, h}) {
                dotList.add(new Dot(0, ink, stuff));
                moved[ink] = Math.max(moved[ink], Math.abs(oddsOf(tale, 0) - now));
                dotList.remove(dotList.size() - 1);
            }
        }
        int greatest = IntStream.of(moved).max().getAsInt();
        return what == 1 ? greatest : IntStream.range(0, 8).filter(k -> moved[k] == greatest).findFirst().getAsInt();
    }

    private int set(char sort, int which, int v) {
        int was;
        if (sort == 'a') {
            was = ages.set(which, v);
        } else if (sort == 's') {
            was = dotList.get(which).stuff;
            dotList.get(which).stuff = v;
        } else {
            was = tales.get(which).prior;
            tales.get(which).prior = v;
        }
        return was;
    }

    private int changed(char sort, int which, int v) {
        int was = set(sort, which, v);
        if (was == v) return was;
        redos.clear();
        undos.addLast(new Change(sort, which, was, v));
        if (undos.size() > 40) undos.removeFirst();
        return was;
    }

    int undo() {
        if (undos.isEmpty()) return STATE;
        Change c = undos.removeLast();
        redos.addLast(c);
        set(c.sort, c.which, c.was);
        return undos.size();
    }

    int redo() {
        if (redos.isEmpty()) return STATE;
        Change c = redos.removeLast();
        undos.addLast(c);
        set(c.sort, c.which, c.became);
        return redos.size();
    }

    // ---- acts, shelves

    int body(int kind) {
        if (!in(kind, 0, 7)) return BAD;
        if (kinds.size() == 50) return FULL;
        kinds.add(kind);
        return kinds.size() - 1;
    }

    int act(int body, int act, int x) {
        ran.clear();
        if (!in(body, 0, kinds.size() - 1) || !in(act, 0, 3)) return 0;
        int v = ActsTest.actOf(kinds.get(body), body, act, x);
        ran.addAll(ActsTest.ran);
        return v;
    }

    int trace(int i) {
        return in(i, 0, Math.min(24, ran.size()) - 1) ? ran.get(i) : BAD;
    }

    int keep(int shelf, int body) {
        if (!in(shelf, 0, 5) || !in(body, -1, kinds.size() - 1)) return BAD;
        shelves[shelf] = body == -1 ? null : new Thing(kinds.get(body), null);
        return 1;
    }

    int row(int shelf, int sort, int n) {
        if (!in(shelf, 0, 5) || !in(sort, 0, 4) || n > 60) return BAD;
        if (n < 0) return -14;
        Object row = sort == 0 ? new byte[n] : sort == 1 ? new short[n] : sort == 2 ? new int[n]
            : sort == 3 ? new long[n] : new boolean[n];
        shelves[shelf] = new Thing(-1, row);
        return 1;
    }

    private int refusal(int shelf, int i) {
        if (!in(shelf, 0, 5)) return BAD;
        if (shelves[shelf] == null) return -11;
        if (shelves[shelf].row == null) return -12;
        return in(i, 0, java.lang.reflect.Array.getLength(shelves[shelf].row) - 1) ? 1 : -13;
    }

    int put(int shelf, int i, long v) {
        int refusal = refusal(shelf, i);
        if (refusal != 1) return refusal;
        Object row = shelves[shelf].row;
        if (row instanceof byte[] r) r[i] = (byte) v;
        if (row instanceof short[] r) r[i] = (short) v;
        if (row instanceof int[] r) r[i] = (int) v;
        if (row instanceof long[] r) r[i] = v;
        if (row instanceof boolean[] r) r[i] = v != 0;
        return 1;
    }

    long element(int shelf, int i) {
        if (refusal(shelf, i) != 1) return Long.MIN_VALUE;
        Object row = shelves[shelf].row;
        if (row instanceof boolean[] r) return r[i] ? 1 : 0;
        return java.lang.reflect.Array.getLong(row, i);
    }

    int shift(int shelf, int i, int other, int j, int n) {
        if (!in(shelf, 0, 5) || !in(other, 0, 5)) return BAD;
        if (shelves[shelf] == null || shelves[other] == null) return -11;
        Object from = shelves[shelf].row;
        Object to = shelves[other].row;
        if (from == null || to == null || from.getClass() != to.getClass()) return -12;
        try {
            System.arraycopy(from, i, to, j, n);
        } catch (IndexOutOfBoundsException e) {
            return -13;
        }
        return n;
    }

    int taken(int shelf, int k) {
        if (!in(shelf, 0, 5) || !in(k, 0, 7)) return BAD;
        if (shelves[shelf] == null) return -11;
        if (shelves[shelf].row != null) return -12;
        int kind = shelves[shelf].kind;
        return ActsTest.isOf(kind, k) ? kind : -12;
    }

    int count(int what) {
        int[] all = {ages.size(), holes.size(), lines.size(), marks.size(), dotList.size(), places.size(), maps.size(),
            tape.length(), tales.size(), undos.size(), kinds.size(), ran.size()};
        return in(what, 0, 11) ? all[what] : BAD;
    }
}
