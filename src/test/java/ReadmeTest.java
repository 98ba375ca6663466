import java.lang.reflect.Method;
import java.nio.file.Files;
import java.nio.file.Path;
import java.util.Arrays;
import java.util.List;
import java.util.TreeMap;
import java.util.TreeSet;
import java.util.regex.Matcher;
import java.util.regex.Pattern;

/** What README.md says is so: each call on it answers what it says, and its table has each call, in the right row. */
public final class ReadmeTest {
    private static final Pattern CALL = Pattern.compile("^bird\\.(\\w+)\\(([^)]*)\\);\\s*// -> (-?\\d+)\\b.*");
    private static final Pattern NAME = Pattern.compile("`(\\w+)`");
    private static final String MADE = "BirdThatDrinks bird = new BirdThatDrinks();";
    private static final Due DUE = new Due("ReadmeTest");

    public static void main(String[] args) throws Exception {
        List<String> lines = Files.readAllLines(Path.of(args.length > 0 ? args[0] : ".").resolve("README.md"));
        askTheCalls(lines);
        TreeMap<String, String> changes = readTheTable(lines);
        askTheTable(changes);
        DUE.end();
    }

    private static void askTheCalls(List<String> lines) throws Exception {
        BirdThatDrinks bird = null;
        boolean inCalls = false;
        int objects = 0;
        for (String line : lines) {
            if (line.startsWith("```")) {
                inCalls = line.equals("```java");
                bird = null;
            } else if (inCalls && line.equals(MADE)) {
                bird = new BirdThatDrinks();
                objects++;
            } else if (inCalls) {
                askTheCall(bird, line);
            }
        }
        DUE.isTrue("README.md makes objects", objects > 0);
    }

    private static void askTheCall(BirdThatDrinks bird, String line) throws Exception {
        Matcher call = CALL.matcher(line);
        boolean isCall = bird != null && call.matches();
        DUE.isTrue("a call with its answer: " + line, isCall);
        if (!isCall) {
            return;
        }
        Method method = method(call.group(1));
        Class<?>[] types = method.getParameterTypes();
        String[] told = call.group(2).isEmpty() ? new String[0] : call.group(2).split(", ");
        Object[] arguments = new Object[types.length];
        DUE.is("arguments: " + line, told.length, types.length);
        for (int i = 0; i < types.length; i++) {
            long number = Long.decode(told[i].replace("_", "").replace("L", ""));
            arguments[i] = types[i] == long.class ? (Object) number : (Object) (int) number;
        }
        DUE.is(line, (int) method.invoke(bird, arguments), Long.parseLong(call.group(3)));
    }

    /** By each call of the face what the table says that it changes. */
    private static TreeMap<String, String> readTheTable(List<String> lines) {
        TreeMap<String, String> changes = new TreeMap<>();
        boolean inTable = false;
        for (String line : lines) {
            inTable = line.equals("| changes | calls |") || inTable && line.startsWith("|");
            String[] cells = line.split("\\|");
            if (!inTable || cells.length != 3) {
                continue;
            }
            Matcher name = NAME.matcher(cells[2]);
            while (name.find()) {
                DUE.isTrue(name.group(1) + " stands once", changes.put(name.group(1), cells[1].strip()) == null);
            }
        }
        TreeSet<String> face = new TreeSet<>();
        for (Method m : BirdThatDrinks.class.getMethods()) {
            if (m.getDeclaringClass() == BirdThatDrinks.class) {
                face.add(m.getName());
            }
        }
        DUE.isTrue("the table has the whole face: " + changes.keySet(), changes.keySet().equals(face));
        return changes;
    }

    /** A call changes something of a bird in the midst of his life just where the table says so. */
    private static void askTheTable(TreeMap<String, String> changes) throws Exception {
        long[] whole = Whole.of(inLife());
        for (String name : changes.keySet()) {
            BirdThatDrinks x = inLife();
            Method method = method(name);
            Object[] arguments = new Object[method.getParameterCount()];
            for (int i = 0; i < arguments.length; i++) {
                arguments[i] = method.getParameterTypes()[i] == long.class ? (Object) 1L : (Object) 1;
            }
            int answer = (int) method.invoke(x, arguments);
            DUE.isTrue(name + " is not refused", answer >= 0 || answer <= -9);
            DUE.is(name + " changes something", Arrays.equals(whole, Whole.of(x)) ? 0 : 1,
                changes.get(name).startsWith("nothing") ? 0 : 1);
        }
    }

    /** Nothing of him is as a call with 1 for all its arguments would leave it, and each call can be done. */
    private static BirdThatDrinks inLife() {
        BirdThatDrinks x = new BirdThatDrinks();
        Due.book(x, "w9:7;r30:300;l900:2;");
        x.wet(3000);
        x.run(700);
        x.image();
        x.gap(60);
        x.run(400);
        Due.feed(x, "d0:1");
        return x;
    }

    private static Method method(String name) {
        for (Method m : BirdThatDrinks.class.getMethods()) {
            if (m.getName().equals(name)) {
                return m;
            }
        }
        throw new IllegalArgumentException("README.md has a call that the face has not: " + name);
    }
}
