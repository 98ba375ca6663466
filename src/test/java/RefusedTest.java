import java.lang.reflect.Method;
import java.util.ArrayList;
import java.util.Arrays;
import java.util.LinkedHashMap;
import java.util.List;
import java.util.Map;
import java.util.TreeSet;

/**
 * Every refused call of every promise: at the edge of what it takes and one beside it, each by itself and several
 * at once, so that the order shows; behind them nothing has changed but how many REFUSALS there were.
 */
public final class RefusedTest {
    private static final Due DUE = new Due("RefusedTest");
    private static final int LIVES = 3;
    // Calls made of one object at most, so that it can still be asked to its end.
    private static final int BATCH = 90;
    private static final long[][] WHOLE = new long[LIVES][];
    // By each argument: what refuses it ("nobody", "what", a number, or nothing), its least and its greatest;
    // then what the document says of it.
    private static final String[] CALLS = {
        "feed number 1 8 long 0 0 = n (1 .. 8) bytes come .. -4; -6 (n; above 64).",
        "glass number 0 9999 = GLASS: what it was. -4; -6 9999.",
        "wet number 0 9900 = WET becomes v (0 .. 9900 ..). -4; -6 9900.",
        "run number 1 3000 = RUN: all NODS. -4; -6 3000.",
        "now what 0 12 = 0 HEAD .. 12 PRESS. Refused as told: -2.",
        "air what 0 3 = 0 DRY, 1 WIND, 2 LAMP, 3 ROOM. -2.",
        "full = FULL.",
        "often number 1 3000 = OFTEN. -4; -6 3000.",
        "law number 0 99 number 1 3000 = LAW. -4; -6 (99; 3000).",
        "stops number 1 3000 = STOPS; -9. -4; -6 3000.",
        "pegs number 1 1000 what 0 1 = PEGS: the least (what 0), the greatest (1); -9. -2; -4; -6 1000.",
        "widest number 1 1000 = WIDEST. -4; -6 1000.",
        "lifts number 1 3000 = LIFTS. -4; -6 3000.",
        "under = UNDER.",
        "without number 1 3000 = WITHOUT; -9. -4; -6 3000.",
        "larger number 1 4 number 1 3000 = LARGER. -4; -6 (4; 3000).",
        "together number 1 4 = TOGETHER; -9. -4; -6 4.",
        "drinks number 1 3000 = DRINKS. -4; -6 3000.",
        "goes number 1 300 number 0 5 what 0 1 = GOES, part 0 above, 1 below the line. -2; -4; -6 (300; 5).",
        "bestRoom number 1 3000 = BEST ROOM. -4; -6 3000.",
        "latest number 1 3000 = LATEST; -9. -4; -6 3000.",
        "dot number 0 2147483647 = DOT i; -9 not so many. -4.",
        "even number 0 2147483647 = EVEN; -9. -4.",
        "longer what 0 1 = LONGER (what 0), shorter (1). -2.",
        "slow number 0 999 = SLOW; -9. -4; -6 999.",
        "hour number 0 2147483647 = HOUR i. -4.",
        "gap number 0 9999 = A told GAP more of the ROW: how many. -4; -6 (9999; 10, too).",
        "judge number 0 9999 = JUDGED; -9 .. -4; -6 9999 (it stays).",
        "driest number 0 9999 what 0 2 = DRIEST by the ROW .. -2; -4; -6 9999; -3 the ROW has none.",
        "sorts number 0 999999 number 0 999999 = SORTS (bits) .. -4; -6 999999.",
        "odds nobody 1 9 number 0 999999 number 0 999999 what 0 1 = ODDS .. -1 SORT (1 .. 9); -2; -4; -6.",
        "drafts number 1 3000 any 0 0 = DRAFTS. -4; -6 3000.",
        "count any 0 0 = .. -9 for another what."};
    // Where these are not refused they change something: other tests ask that.
    private static final List<String> CHANGING = List.of("feed", "glass", "wet", "run", "gap", "judge");
    private static final int[] LEAST = {10, 1, 10, 1, 0, 0, 1, 0, 0, 0, 0, 100, 0, 0, 0};
    private static final int[] GREATEST = {99, 99, 99, 9, 99, 9, 4, 1, 99, 9, 9, 400, 1, 1, 999};

    /** What is asked of one object, call by call. */
    private static final class Asked {
        final int life;
        BirdThatDrinks x;
        int calls = 0;
        int[] refusals = new int[6];

        Asked(int life) {
            this.life = life;
            x = inLife(life);
        }

        /** If due is 0: the call must not be refused. */
        void call(String name, Object[] args, int due) throws Exception {
            if (calls >= BATCH) {
                end();
                x = inLife(life);
                calls = 0;
                refusals = new int[6];
            }
            calls++;
            String told = name + Arrays.toString(args) + " in life " + life;
            int answer = (int) method(name).invoke(x, args);
            if (due < 0) {
                refusals[-due - 1]++;
                DUE.is(told, answer, name.equals("now") ? 1000000000 - due : due);
            } else if (answer <= -1 && answer >= -6 || answer > 1000000000) {
                DUE.is(told + " is not refused", answer, 0);
            }
        }

        void end() {
            DUE.isTrue("nothing has changed but how many REFUSALS there were, in life " + life,
                Arrays.equals(Whole.of(x), Whole.withRefusals(WHOLE[life], refusals)));
        }
    }

    public static void main(String[] args) throws Exception {
        for (int life = 0; life < LIVES; life++) {
            WHOLE[life] = Whole.of(inLife(life));
            DUE.isTrue("lives are alike", Arrays.equals(WHOLE[life], Whole.of(inLife(life))));
        }
        for (int life = 0; life < LIVES; life++) {
            for (String call : CALLS) {
                String[] parts = call.split(" = ");
                DUE.sentence(parts[0].split(" ")[0] + ": " + parts[1]);
                askAll(parts[0].split(" "), life);
            }
            askSet(life);
        }
        refusedByState();
        countedByKind();
        DUE.end();
    }

    private static BirdThatDrinks inLife(int life) {
        BirdThatDrinks x = new BirdThatDrinks();
        if (life == 1) {
            live(x);
        } else if (life == 2) {
            fill(x);
        }
        return x;
    }

    /** Something of everything: settings, a BOOK, DOTS, a state in the middle, an image, THE TAPE, the ROW. */
    private static void live(BirdThatDrinks x) {
        int[] settings = {35, 22, 44, 4, 1, 2, 1, 1, 60, 3, 1, 210, 1, 1, 11};
        for (int i = 0; i < settings.length; i++) {
            x.set(i, settings[i]);
        }
        Due.book(x, "d300:50;w90:2;");
        x.wet(3000);
        x.glass(400);
        x.run(333);
        x.image();
        x.set(8, 70);
        x.run(39);
        Due.feed(x, "d372:33");
        for (int gap : new int[] {40, 43, 37}) {
            x.gap(gap);
        }
        x.air(9);
    }

    /** No room anywhere. */
    private static void fill(BirdThatDrinks x) {
        for (int i = 0; i < 2; i++) {
            Due.book(x, "l0:9;l0:9;d9:9;d9:9;d9:9;w9:9;w9:9;r9:109;l9:9;d9:9;");
        }
        x.set(1, 1);
        x.set(2, 10);
        x.set(3, 9);
        x.glass(9999);
        x.wet(4000);
        x.run(2000);
        x.image();
        for (int i = 0; i < 10; i++) {
            x.gap(7 + i);
        }
        Due.feed(x, "d000:1;d0:1;d0:1;d0:1;d0:1;d0:1;d0:1;d0:1;d0:1;d0:1;d0:1;d00:1;w");
    }

    private static Method method(String name) {
        for (Method m : BirdThatDrinks.class.getDeclaredMethods()) {
            if (m.getName().equals(name)) {
                return m;
            }
        }
        throw new IllegalArgumentException(name);
    }

    private static void askAll(String[] spec, int life) throws Exception {
        Asked asked = new Asked(life);
        int many = (spec.length - 1) / 3;
        List<List<Integer>> values = new ArrayList<>();
        int all = 1;
        for (int i = 0; i < many; i++) {
            values.add(edges(Integer.parseInt(spec[3 * i + 2]), Integer.parseInt(spec[3 * i + 3])));
            all *= values.get(i).size();
        }
        for (int i = 0; i < all; i++) {
            int rest = i;
            int[] args = new int[many];
            for (int k = 0; k < many; k++) {
                args[k] = values.get(k).get(rest % values.get(k).size());
                rest /= values.get(k).size();
            }
            int due = refusalOf(spec, args, life);
            // What is not refused is in mind or only looked at, and changes nothing; of the dear ones some do.
            if (due < 0 || !CHANGING.contains(spec[0]) && (many < 3 || i % 7 == 0)) {
                asked.call(spec[0], boxed(spec, args), due);
            }
        }
        asked.end();
    }

    private static List<Integer> edges(int least, int greatest) {
        TreeSet<Integer> edges = new TreeSet<>(List.of(Integer.MIN_VALUE, least, greatest, Integer.MAX_VALUE));
        edges.add(least - 1);
        if (greatest < Integer.MAX_VALUE) {
            edges.add(greatest + 1);
        }
        return new ArrayList<>(edges);
    }

    private static Object[] boxed(String[] spec, int[] args) {
        Object[] all = new Object[args.length];
        for (int i = 0; i < args.length; i++) {
            all[i] = spec[3 * i + 1].equals("long") ? (Object) (long) args[i] : (Object) args[i];
        }
        return all;
    }

    /** The first that fits: -1, -2, -4, -6, and -3 of what only a state refuses. */
    private static int refusalOf(String[] spec, int[] args, int life) {
        boolean[] fits = new boolean[7];
        for (int i = 0; i < args.length; i++) {
            boolean below = args[i] < Integer.parseInt(spec[3 * i + 2]);
            boolean above = args[i] > Integer.parseInt(spec[3 * i + 3]);
            switch (spec[3 * i + 1]) {
                case "nobody":
                    fits[1] |= below || above;
                    break;
                case "what":
                    fits[2] |= below || above;
                    break;
                case "number":
                    fits[4] |= below;
                    fits[6] |= above;
                    break;
                default:
            }
        }
        fits[6] |= life == 2 && (spec[0].equals("feed") || spec[0].equals("gap"));
        fits[3] = life == 0 && spec[0].equals("driest");
        for (int refusal : new int[] {1, 2, 4, 6, 3}) {
            if (fits[refusal]) {
                return -refusal;
            }
        }
        return 0;
    }

    private static void askSet(int life) throws Exception {
        DUE.sentence("set: A setting: what it was. -2; -4; -6.");
        Asked asked = new Asked(life);
        for (int v : new int[] {Integer.MIN_VALUE, -1, 0, 1, 50, 1000, Integer.MAX_VALUE}) {
            for (int what : new int[] {Integer.MIN_VALUE, -2, -1, 15, 16, Integer.MAX_VALUE}) {
                asked.call("set", new Object[] {what, v}, -2);
            }
        }
        for (int what = 0; what < LEAST.length; what++) {
            asked.call("set", new Object[] {what, Integer.MIN_VALUE}, -4);
            asked.call("set", new Object[] {what, LEAST[what] - 1}, -4);
            asked.call("set", new Object[] {what, GREATEST[what] + 1}, -6);
            asked.call("set", new Object[] {what, Integer.MAX_VALUE}, -6);
        }
        asked.end();
    }

    private static void refusedByState() throws Exception {
        DUE.sentence("on: ON from it: TIME. -3 there is none.");
        Map<Integer, Integer> answers = new LinkedHashMap<>();
        Asked asked = new Asked(0);
        asked.call("on", new Object[0], -3);
        asked.call("on", new Object[0], -3);
        asked.end();
        DUE.sentence("feed: -4; -6 (n; above 64).");
        for (int has = 55; has <= 64; has++) {
            for (int n = 0; n <= 9; n++) {
                BirdThatDrinks x = new BirdThatDrinks();
                for (int i = 0; i < has; i++) {
                    x.feed(1, 'd');
                }
                int due = n < 1 ? -4 : n > 8 || has + n > 64 ? -6 : has + n;
                DUE.is("feed(" + n + ", 0) with " + has, x.feed(n, 0), due);
                DUE.is("count(3)", x.count(3), Math.max(has, due));
                answers.merge(due, 1, Integer::sum);
            }
        }
        DUE.is("above 64, or 9", answers.get(-6), 10 + 1 + 2 + 3 + 4 + 5 + 6 + 7 + 8);
    }

    /** A refusal is counted by its own kind, once, by now(), too; FAULTS and -9 are not counted. */
    private static void countedByKind() {
        DUE.sentence("11 .. 16 REFUSALS -1 .. -6");
        BirdThatDrinks x = new BirdThatDrinks();
        int[] want = new int[6];
        for (int i = 0; i < 5; i++) {
            x.odds(10, 0, 0, 0);
            want[0]++;
            x.now(13);
            want[1]++;
            x.on();
            want[2]++;
            x.gap(-1);
            want[3]++;
            x.hour(0);
            x.dot(0);
            x.count(17);
            x.book();
            x.pegs(1, 0);
            x.feed(9, 0);
            want[5]++;
            for (int k = 0; k < 6; k++) {
                DUE.is("count(" + (11 + k) + ")", x.count(11 + k), want[k]);
            }
        }
        DUE.is("count(10)", x.count(10), -9);
        DUE.is("count(17)", x.count(17), -9);
    }
}
