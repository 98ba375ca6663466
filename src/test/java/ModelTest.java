import java.lang.reflect.Method;
import java.util.ArrayList;
import java.util.List;
import java.util.Random;

/** Many runs of calls, made from fixed seeds, on the program and on the Model: each answer is the same. */
public final class ModelTest {
    private static final int RUNS = 260;
    // What an argument is taken from mostly: its least and greatest, by the order of the arguments.
    private static final String[] CALLS = {
        "feed 1 8 0 9", "book", "set 0 14 0 99", "glass 0 9999", "wet 0 9900", "run 1 3000", "now 0 12", "air 0 3",
        "full", "often 1 3000", "law 0 99 1 3000", "stops 1 3000", "pegs 1 1000 0 1", "widest 1 1000",
        "lifts 1 3000", "under", "without 1 3000", "larger 1 4 1 3000", "together 1 4", "drinks 1 3000",
        "goes 1 300 0 5 0 1", "bestRoom 1 3000", "latest 1 3000", "dot 0 60", "even 0 99", "longer 0 1",
        "slow 0 999", "hour 0 60", "gap 0 9999", "judge 0 9999", "driest 0 9999 0 2", "sorts 0 999999 0 999999",
        "odds 1 9 0 999999 0 999999 0 1", "drafts 1 3000 0 9", "image", "on", "count 0 16"};
    private static final String[] DEAR = {"stops", "pegs", "widest", "goes", "sorts", "odds", "driest", "lifts",
        "together", "latest", "bestRoom"};
    private static final int[] SET_LEAST = {10, 1, 10, 1, 0, 0, 1, 0, 0, 0, 0, 100, 0, 0, 0};
    private static final int[] SET_GREATEST = {99, 99, 99, 9, 99, 9, 4, 1, 99, 9, 9, 400, 1, 1, 999};

    private final Random random;
    private final BirdThatDrinks bird = new BirdThatDrinks();
    private final Model model = new Model();
    private final Due due;
    private final int run;
    private int calls = 0;

    private ModelTest(int run, Due due) {
        this.run = run;
        this.due = due;
        random = new Random(run);
    }

    public static void main(String[] args) throws Exception {
        Due due = new Due("ModelTest");
        for (int run = 0; run < RUNS; run++) {
            new ModelTest(run, due).go();
        }
        due.end();
    }

    private void go() throws Exception {
        int steps = 60 + random.nextInt(80);
        for (int i = 0; i < steps && calls < 480; i++) {
            String[] spec = CALLS[random.nextInt(CALLS.length)].split(" ");
            if (List.of(DEAR).contains(spec[0]) && random.nextInt(4) != 0) {
                continue;
            }
            if (spec[0].equals("feed") && random.nextInt(4) != 0) {
                tellBook();
            } else if (spec[0].equals("gap") && random.nextBoolean()) {
                tellLikelyGaps();
            } else {
                ask(spec);
            }
            if (random.nextInt(3) == 0) {
                ask(CALLS[2].split(" "));
            }
            if (random.nextInt(3) == 0) {
                ask(CALLS[5].split(" "));
            }
        }
        look();
    }

    private void look() throws Exception {
        for (int i = 0; i <= 12; i++) {
            call("now", i);
        }
        for (int i = 0; i <= 16; i++) {
            call("count", i);
        }
    }

    private int number(int least, int greatest) {
        switch (random.nextInt(24)) {
            case 0: return least;
            case 1: return greatest;
            case 2: return least - 1;
            case 3: return greatest + 1;
            case 4: return random.nextInt();
            default: return least + random.nextInt(greatest - least + 1);
        }
    }

    private void ask(String[] spec) throws Exception {
        List<Object> args = new ArrayList<>();
        for (int i = 1; i < spec.length; i += 2) {
            int v = number(Integer.parseInt(spec[i]), Integer.parseInt(spec[i + 1]));
            if (i == 3 && spec[0].equals("set") && (int) args.get(0) >= 0 && (int) args.get(0) < 15) {
                int what = (int) args.get(0);
                v = number(SET_LEAST[what], SET_GREATEST[what]);
            }
            if (spec[0].equals("drafts") && i == 3) {
                v = random.nextInt();
            }
            if (spec[0].equals("feed") && i == 3) {
                args.add(random.nextLong());
            } else {
                args.add(v);
            }
        }
        if (spec[0].equals("judge") || spec[0].equals("driest")) {
            args.set(0, random.nextBoolean() ? random.nextInt(60) : args.get(0));
        }
        if ((spec[0].equals("sorts") || spec[0].equals("odds")) && random.nextBoolean()) {
            askLikelyNods(spec[0]);
            return;
        }
        call(spec[0], args.toArray());
    }

    /** NODS that some SORT gives. */
    private void askLikelyNods(String name) throws Exception {
        int sort = 1 + random.nextInt(9);
        int[] dry = {random.nextInt(100), random.nextInt(100), random.nextInt(100)};
        int old = model.now(6) >= 0 ? model.set(3, sort) : 0;
        int nods = 0;
        for (int d : dry) {
            nods = 100 * nods + Math.min(99, model.law(d, 1000));
        }
        model.set(3, old);
        int dries = 10000 * dry[0] + 100 * dry[1] + dry[2];
        if (name.equals("sorts")) {
            call("sorts", dries, nods);
        } else {
            call("odds", random.nextBoolean() ? sort : 1 + random.nextInt(9), dries, nods, random.nextInt(2));
        }
    }

    private void tellLikelyGaps() throws Exception {
        if (random.nextBoolean()) {
            call("judge", 0);
        }
        int many = random.nextInt(11);
        for (int i = 0; i < many; i++) {
            int gap = model.dot(i + 1) >= 0 ? model.dot(i + 1) - model.dot(i) : 40 + random.nextInt(300);
            call("gap", Math.max(0, gap + random.nextInt(5) - 2));
        }
    }

    private void tellBook() throws Exception {
        StringBuilder text = new StringBuilder();
        int many = random.nextInt(7);
        for (int i = 0; i < many; i++) {
            int what = random.nextInt(4);
            text.append("dwlr".charAt(what)).append(random.nextInt(random.nextBoolean() ? 10000 : 60)).append(':');
            text.append(number(SET_LEAST[8 + what], SET_GREATEST[8 + what]) & 1023).append(';');
        }
        if (random.nextInt(3) == 0 && text.length() > 0) {
            text.setCharAt(random.nextInt(text.length()), "dwlr0123456789:;x".charAt(random.nextInt(17)));
        }
        if (random.nextInt(6) == 0 && text.length() > 0) {
            text.setLength(random.nextInt(text.length()));
        }
        for (int from = 0; from < text.length(); from += 8) {
            int n = Math.min(8, text.length() - from);
            call("feed", n, Due.bytes(text.substring(from, from + n)));
        }
        call("book");
        for (int i = 0; i < 4; i++) {
            call("air", i);
        }
    }

    private void call(String name, Object... args) throws Exception {
        calls++;
        if (calls > 512) {
            return;
        }
        Class<?>[] types = new Class<?>[args.length];
        StringBuilder told = new StringBuilder("run " + run + ", call " + calls + ", " + name);
        for (int i = 0; i < args.length; i++) {
            types[i] = args[i] instanceof Long ? long.class : int.class;
            told.append(' ').append(args[i]);
        }
        Method ours = BirdThatDrinks.class.getMethod(name, types);
        Method models = Model.class.getMethod(name, types);
        due.is(told.toString(), (int) ours.invoke(bird, args), (int) models.invoke(model, args));
    }
}
