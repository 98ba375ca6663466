import java.util.ArrayList;
import java.util.LinkedHashMap;
import java.util.List;
import java.util.Map;
import java.util.function.IntPredicate;
import java.util.regex.Matcher;
import java.util.regex.Pattern;
import java.util.stream.IntStream;

/**
 * The document written a second time, on other ground (maps, regular expressions, state objects, copies),
 * for the tests to hold the program against. Only slow and plain; not the program.
 */
public final class Model {
    private static final String[] NAMES = {"FELT", "PEG", "STUFF", "SORT", "CRACK", "LIFT", "SIZE", "BLACK",
        "DRY", "WIND", "LAMP", "ROOM", "BELL", "SPIRIT", "REACH"};
    private static final int[][] RANGES = {{10, 99, 40}, {1, 99, 50}, {10, 99, 60}, {1, 9, 3}, {0, 99, 0},
        {0, 9, 0}, {1, 4, 1}, {0, 1, 0}, {0, 99, 50}, {0, 9, 1}, {0, 9, 0}, {100, 400, 200}, {0, 1, 0},
        {0, 1, 0}, {0, 999, 10}};
    private static final String LETTERS = "dwlr";

    /** What a state does in its TENTH; answers the state that is next. */
    private abstract static class State implements Cloneable {
        int since = 0;

        abstract int kind();

        abstract State step(World w);

        State copy() {
            try {
                return (State) clone();
            } catch (CloneNotSupportedException e) {
                throw new IllegalStateException(e);
            }
        }
    }

    private static class Rising extends State {
        int kind() {
            return 0;
        }

        State step(World w) {
            w.up = Math.max(0, Math.min(100 * w.get("STUFF"), w.up + cut(w.press, 2)));
            if (w.press > 0) {
                w.cold = 0;
            } else {
                w.cold++;
            }
            return w.up >= w.full() ? new Tipping() : otherwise(w);
        }

        State otherwise(World w) {
            if (w.up >= 100 * w.get("STUFF")) {
                return new Waiting(4);
            }
            if (w.cold < 50) {
                return this;
            }
            return new Waiting(w.wet == 0 && w.glass < w.get("REACH") ? 6 : 5);
        }
    }

    private static final class Swinging extends Rising {
        int swing = 88;

        int kind() {
            return 1;
        }

        State otherwise(World w) {
            if (since % 3 != 0) {
                return this;
            }
            swing = cut(swing, 8) * 7;
            return swing < 10 ? new Rising() : this;
        }
    }

    private static final class Tipping extends State {
        int kind() {
            return 2;
        }

        State step(World w) {
            if (since != 5) {
                return this;
            }
            w.nods.add(w.time);
            if (w.glass >= Math.max(5, w.get("REACH"))) {
                w.glass -= 5;
                w.wet = Math.min(w.wet + 500, 100 * w.get("FELT"));
            }
            return new Emptying();
        }
    }

    private static final class Emptying extends State {
        int kind() {
            return 3;
        }

        State step(World w) {
            w.up = Math.max(w.up - cut(w.up, 4) - 1, 0);
            return w.up <= w.get("STUFF") * 5 ? new Swinging() : this;
        }
    }

    /** HANGING, STOPPED and DRIED. */
    private static final class Waiting extends Rising {
        private final int kind;

        Waiting(int kind) {
            this.kind = kind;
        }

        int kind() {
            return kind;
        }

        State otherwise(World w) {
            return w.press > 0 && w.up < 100 * w.get("STUFF") ? new Rising() : this;
        }
    }

    /** What THE IMAGE holds. */
    private static final class World {
        Map<String, Integer> settings = new LinkedHashMap<>();
        List<int[]> book = new ArrayList<>();
        List<Integer> nods = new ArrayList<>();
        int glass = 500;
        int head = 200;
        int tail = 200;
        int wet = 0;
        int up = 0;
        int damp = 0;
        int gone = 0;
        int time = 0;
        int cold = 0;
        int press = 0;
        State state = new Rising();

        World copy() {
            World w = new World();
            w.settings = new LinkedHashMap<>(settings);
            w.book = new ArrayList<>(book);
            w.nods = new ArrayList<>(nods);
            w.glass = glass;
            w.head = head;
            w.tail = tail;
            w.wet = wet;
            w.up = up;
            w.damp = damp;
            w.gone = gone;
            w.time = time;
            w.cold = cold;
            w.press = press;
            w.state = state.copy();
            return w;
        }

        /** Names and numbers by turns: what is unlike his settings. */
        World fresh(Object... unlike) {
            World w = new World();
            w.settings = new LinkedHashMap<>(settings);
            for (int i = 0; i < unlike.length; i += 2) {
                w.settings.put((String) unlike[i], (Integer) unlike[i + 1]);
            }
            w.glass = glass;
            w.wet = 500;
            w.head = w.get("ROOM");
            w.tail = w.get("ROOM");
            return w;
        }

        int get(String name) {
            return settings.get(name);
        }

        int full() {
            return get("STUFF") * get("PEG") + get("LIFT") * 10;
        }

        int air(int what) {
            int[] best = null;
            for (int[] s : book) {
                if (s[0] == what && s[1] <= time && (best == null || s[1] >= best[1])) {
                    best = s;
                }
            }
            return best == null ? get(NAMES[8 + what]) : best[2];
        }

        World go(int n) {
            for (int i = 0; i < n; i++) {
                tenth();
            }
            return this;
        }

        void tenth() {
            int dryness = air(0);
            if (get("BELL") != 0) {
                dryness -= cut(damp, 1000);
                if (dryness < 0) {
                    dryness = 0;
                }
            }
            int off = cut(dryness * (air(1) + 1), 4);
            for (int i = 0; i < get("SPIRIT"); i++) {
                off = off + off;
            }
            if (off > wet) {
                off = wet;
            }
            wet -= off;
            damp += off;
            gone += off;
            head = head + cut(air(3) - head, 20) - cut(off, 10);
            tail = tail + cut(air(3) - tail, 20) + air(2) + air(2) * get("BLACK");
            press = cut((tail - head) * get("SORT"), 3 * get("SIZE")) - get("CRACK");
            state.since++;
            state = state.step(this);
            time++;
        }

        int[] dots() {
            return nods.stream().limit(60).mapToInt(d -> d).toArray();
        }

        int[] gaps() {
            int[] dots = dots();
            return IntStream.range(1, dots.length).map(i -> dots[i] - dots[i - 1]).toArray();
        }

        int many() {
            return nods.size();
        }
    }

    private World world = new World();
    private World image = null;
    private StringBuilder tape = new StringBuilder();
    private List<Integer> row = new ArrayList<>();
    private final int[] refusals = new int[7];

    public Model() {
        for (int i = 0; i < NAMES.length; i++) {
            world.settings.put(NAMES[i], RANGES[i][2]);
        }
    }

    private static int cut(int a, int by) {
        int size = Math.floorDiv(Math.abs(a), Math.abs(by));
        return (a < 0) == (by < 0) ? size : -size;
    }

    private int no(int refusal) {
        refusals[-refusal]++;
        return refusal;
    }

    /** Triples of number, least, greatest: all that is below comes first. */
    private int check(long... triples) {
        for (int i = 0; i < triples.length; i += 3) {
            if (triples[i] < triples[i + 1]) {
                return no(-4);
            }
        }
        for (int i = 0; i < triples.length; i += 3) {
            if (triples[i] > triples[i + 2]) {
                return no(-6);
            }
        }
        return 0;
    }

    private static int first(int from, int to, int step, IntPredicate fits) {
        for (int i = from; step > 0 ? i <= to : i >= to; i += step) {
            if (fits.test(i)) {
                return i;
            }
        }
        return -9;
    }

    public int feed(int n, long bytes) {
        int no = check(n, 1, Math.min(8, 64 - tape.length()));
        if (no != 0) {
            return no;
        }
        long rest = bytes;
        for (int i = 0; i < n; i++) {
            tape.append((char) (rest & 0xff));
            rest >>= 8;
        }
        return tape.length();
    }

    public int book() {
        String text = tape.toString();
        tape.setLength(0);
        Pattern whole = Pattern.compile("(?:[dwlr][0-9]{1,4}:[0-9]{1,3};)+");
        for (int end = 0; end <= text.length(); end++) {
            Matcher m = whole.matcher(text.substring(0, end));
            boolean canGoOn = m.matches() || m.hitEnd();
            if (!canGoOn) {
                return -1000 - (end - 1);
            }
        }
        if (!whole.matcher(text).matches()) {
            return -1000 - text.length();
        }
        List<int[]> all = new ArrayList<>(world.book);
        Matcher one = Pattern.compile("([dwlr])([0-9]+):([0-9]+);").matcher(text);
        int many = 0;
        while (one.find()) {
            int what = LETTERS.indexOf(one.group(1));
            int value = Integer.parseInt(one.group(3));
            if (value < RANGES[8 + what][0] || value > RANGES[8 + what][1] || all.size() == 20) {
                return -2000 - one.start();
            }
            all.add(new int[] {what, Integer.parseInt(one.group(2)), value});
            many++;
        }
        world.book = all;
        return many;
    }

    public int set(int what, int v) {
        if (what < 0 || what > 14) {
            return no(-2);
        }
        int no = check(v, RANGES[what][0], RANGES[what][1]);
        return no != 0 ? no : world.settings.put(NAMES[what], v);
    }

    public int glass(int v) {
        int no = check(v, 0, 9999);
        int was = world.glass;
        world.glass = no == 0 ? v : was;
        return no == 0 ? was : no;
    }

    public int wet(int v) {
        int no = check(v, 0, 9900);
        if (no != 0) {
            return no;
        }
        int was = world.wet;
        world.wet = v > 100 * world.get("FELT") ? 100 * world.get("FELT") : v;
        return was;
    }

    public int run(int n) {
        int no = check(n, 1, 3000);
        return no != 0 ? no : world.go(n).many();
    }

    public int now(int what) {
        State s = world.state;
        int swing = s instanceof Swinging ? ((Swinging) s).swing : 0;
        int[] all = {world.head, world.tail, world.wet, world.up, world.damp, world.gone, world.time,
            world.many(), s.kind(), s.since, swing, world.glass, world.press};
        return what < 0 || what >= all.length ? 1000000000 - no(-2) : all[what];
    }

    public int air(int what) {
        return what < 0 || what > 3 ? no(-2) : world.air(what);
    }

    public int full() {
        return world.full();
    }

    public int often(int n) {
        int no = check(n, 1, 3000);
        return no != 0 ? no : world.copy().go(n).many() - world.many();
    }

    public int law(int dry, int n) {
        int no = check(dry, 0, 99, n, 1, 3000);
        return no != 0 ? no : world.fresh("DRY", dry).go(n).many();
    }

    public int stops(int n) {
        int no = check(n, 1, 3000);
        return no != 0 ? no : first(0, 99, 1, d -> world.fresh("DRY", d).go(n).many() > 0);
    }

    public int pegs(int n, int what) {
        if (what != 0 && what != 1) {
            return no(-2);
        }
        int no = check(n, 1, 1000);
        if (no != 0) {
            return no;
        }
        IntPredicate nods = p -> world.fresh("PEG", p).go(n).many() > 0;
        return what == 0 ? first(1, 99, 1, nods) : first(99, 1, -1, nods);
    }

    /** The first key with the greatest number. */
    private static int best(Map<Integer, Integer> numbers) {
        int best = -9;
        for (int k : numbers.keySet()) {
            if (best == -9 || numbers.get(k) > numbers.get(best)) {
                best = k;
            }
        }
        return best;
    }

    public int widest(int n) {
        int no = check(n, 1, 1000);
        if (no != 0) {
            return no;
        }
        Map<Integer, Integer> airs = new LinkedHashMap<>();
        for (int p = 10; p < 100; p += 10) {
            airs.put(p, 0);
            for (int d = 0; d < 100; d += 10) {
                if (world.fresh("PEG", p, "DRY", d).go(n).many() > 0) {
                    airs.merge(p, 1, Integer::sum);
                }
            }
        }
        return best(airs);
    }

    public int lifts(int n) {
        int no = check(n, 1, 3000);
        if (no != 0) {
            return no;
        }
        Map<Integer, Integer> work = new LinkedHashMap<>();
        for (int l = 0; l < 10; l++) {
            work.put(l, l * world.fresh("LIFT", l).go(n).many());
        }
        return best(work);
    }

    public int under() {
        return world.fresh("BELL", 1).go(3000).many();
    }

    public int without(int n) {
        int no = check(n, 1, 3000);
        return no != 0 ? no : first(0, 9, 1, l -> {
            World w = world.fresh("LAMP", l);
            w.wet = 0;
            w.glass = 0;
            return w.go(n).many() > 0;
        });
    }

    public int larger(int k, int n) {
        int no = check(k, 1, 4, n, 1, 3000);
        return no != 0 ? no : world.fresh("SIZE", k).go(n).many();
    }

    public int together(int k) {
        int no = check(k, 1, 4);
        if (no != 0) {
            return no;
        }
        List<Integer> both = world.fresh("SIZE", 1).go(3000).nods;
        both.retainAll(world.fresh("SIZE", k).go(3000).nods);
        return both.isEmpty() ? -9 : both.get(0);
    }

    public int drinks(int n) {
        int no = check(n, 1, 3000);
        return no != 0 ? no : world.glass - world.copy().go(n).glass;
    }

    public int goes(int n, int by, int part) {
        if (part != 0 && part != 1) {
            return no(-2);
        }
        int no = check(n, 1, 300, by, 0, 5);
        if (no != 0) {
            return no;
        }
        int above = 0;
        int below = 0;
        for (int p = world.get("PEG") - by; p <= world.get("PEG") + by; p++) {
            for (int s = world.get("STUFF") - by; s <= world.get("STUFF") + by; s++) {
                below++;
                if (p >= 1 && p <= 99 && s >= 10 && s <= 99
                        && world.fresh("PEG", p, "STUFF", s).go(n).many() > 0) {
                    above++;
                }
            }
        }
        if (above == 0) {
            return part;
        }
        for (int d = below; d > 1; d--) {
            if (above % d == 0 && below % d == 0) {
                above /= d;
                below /= d;
            }
        }
        return part == 0 ? above : below;
    }

    public int bestRoom(int n) {
        int no = check(n, 1, 3000);
        if (no != 0) {
            return no;
        }
        Map<Integer, Integer> nods = new LinkedHashMap<>();
        for (int r = 100; r <= 400; r += 50) {
            nods.put(r, world.fresh("ROOM", r).go(n).many());
        }
        return best(nods);
    }

    public int latest(int n) {
        int no = check(n, 1, 3000);
        if (no != 0) {
            return no;
        }
        Map<Integer, Integer> last = new LinkedHashMap<>();
        for (int k = 1; k <= 4; k++) {
            List<Integer> nods = world.fresh("SIZE", k).go(n).nods;
            if (!nods.isEmpty()) {
                last.put(k, nods.get(nods.size() - 1));
            }
        }
        return best(last);
    }

    public int dot(int i) {
        int no = check(i, 0, Integer.MAX_VALUE);
        return no != 0 ? no : i < world.dots().length ? world.dots()[i] : -9;
    }

    public int even(int more) {
        int no = check(more, 0, Integer.MAX_VALUE);
        int[] g = world.gaps();
        return no != 0 ? no : first(1, g.length - 1, 1, i -> Math.abs(g[i] - g[i - 1]) > more);
    }

    public int longer(int what) {
        if (what != 0 && what != 1) {
            return no(-2);
        }
        int[] g = world.gaps();
        return (int) IntStream.range(1, g.length)
            .filter(i -> what == 0 ? g[i] > g[i - 1] : g[i] < g[i - 1]).count();
    }

    public int slow(int times) {
        int no = check(times, 0, 999);
        int[] g = world.gaps();
        return no != 0 ? no : first(1, g.length - 1, 1, i -> g[i] > (long) times * g[0] / 10);
    }

    public int hour(int i) {
        int no = check(i, 0, Integer.MAX_VALUE);
        return no != 0 ? no : (int) IntStream.of(world.dots()).filter(d -> d / 100 == i).count();
    }

    public int gap(int v) {
        int no = check(v, 0, row.size() == 10 ? -1 : 9999);
        if (no != 0) {
            return no;
        }
        row.add(v);
        return row.size();
    }

    public int judge(int slip) {
        int no = check(slip, 0, 9999);
        if (no != 0) {
            return no;
        }
        List<Integer> told = row;
        row = new ArrayList<>();
        int[] g = world.gaps();
        for (int i = 0; i < told.size() || i < g.length; i++) {
            if (i >= told.size() || i >= g.length || Math.abs(told.get(i) - g[i]) > slip) {
                return i;
            }
        }
        return -9;
    }

    public int driest(int slip, int what) {
        if (what < 0 || what > 2) {
            return no(-2);
        }
        int no = check(slip, 0, 9999);
        if (no != 0) {
            return no;
        }
        if (row.isEmpty()) {
            return no(-3);
        }
        List<Integer> dries = new ArrayList<>();
        for (int d = 0; d < 100; d += 5) {
            int[] g = world.fresh("DRY", d).go(3000).gaps();
            boolean fits = g.length >= row.size();
            for (int i = 0; fits && i < row.size(); i++) {
                fits = Math.abs(g[i] - row.get(i)) <= slip;
            }
            if (fits) {
                dries.add(d);
            }
        }
        if (what == 2) {
            return dries.size();
        }
        return dries.isEmpty() ? -9 : dries.get(what == 0 ? 0 : dries.size() - 1);
    }

    private static int[] three(int told) {
        String digits = String.format("%06d", told);
        return new int[] {Integer.parseInt(digits.substring(0, 2)), Integer.parseInt(digits.substring(2, 4)),
            Integer.parseInt(digits.substring(4))};
    }

    public int sorts(int dries, int nods) {
        int no = check(dries, 0, 999999, nods, 0, 999999);
        if (no != 0) {
            return no;
        }
        int bits = 0;
        for (int s = 1; s <= 9; s++) {
            boolean so = true;
            for (int i = 0; i < 3; i++) {
                so &= world.fresh("SORT", s, "DRY", three(dries)[i]).go(1000).many() == three(nods)[i];
            }
            bits += so ? (int) Math.pow(2, s) : 0;
        }
        return bits;
    }

    public int odds(int sort, int dries, int nods, int part) {
        if (sort < 1 || sort > 9) {
            return no(-1);
        }
        if (part != 0 && part != 1) {
            return no(-2);
        }
        int bits = sorts(dries, nods);
        if (bits < 0) {
            return bits;
        }
        String all = Integer.toBinaryString(bits);
        boolean isOne = (bits & (1 << sort)) != 0;
        return part == 0 ? (isOne ? 1 : 0) : (isOne ? all.replace("0", "").length() : 1);
    }

    public int drafts(int n, int z) {
        int no = check(n, 1, 3000);
        if (no != 0) {
            return no;
        }
        World w = world.copy();
        int seed = z;
        for (int i = 0; i < n; i++) {
            if (w.time == w.time / 10 * 10) {
                seed = (int) (seed * 1664525L + 1013904223L);
                long unsigned = seed & 0x7fffffffL;
                int drawn = (int) (unsigned / 256 % 10);
                w.book.removeIf(s -> s[0] == 1);
                w.book.add(new int[] {1, w.time, drawn});
            }
            w.tenth();
        }
        return w.many() - world.many();
    }

    public int image() {
        image = world.copy();
        return image.time;
    }

    public int on() {
        if (image == null) {
            return no(-3);
        }
        world = image.copy();
        return world.time;
    }

    public int count(int what) {
        switch (what) {
            case 0: return world.dots().length;
            case 1: return world.book.size();
            case 2: return row.size();
            case 3: return tape.length();
            case 11: case 12: case 13: case 14: case 15: case 16: return refusals[what - 10];
            default: return -9;
        }
    }
}
