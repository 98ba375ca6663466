import java.lang.reflect.InvocationTargetException;
import java.lang.reflect.Method;
import java.lang.reflect.Modifier;
import java.util.ArrayList;
import java.util.Comparator;
import java.util.List;

/** No call throws, for any arguments in any state, and what is refused is counted, once. */
public final class AnyArgumentsTest {
    private static final int[] NUMBERS = {Integer.MIN_VALUE, Integer.MIN_VALUE + 1, -1000000, -65, -10, -9, -1, 0,
        1, 2, 3, 8, 9, 10, 14, 15, 16, 60, 61, 64, 65, 99, 100, 300, 301, 1000, 1001, 3000, 3001, 9999, 10000,
        999999, 1000000, Integer.MAX_VALUE - 1, Integer.MAX_VALUE};

    // Of the 512 calls of an object what inState() leaves, and what ask() takes.
    private static final int CALLS = 420;
    private static final int CALLS_PER_ASK = 13;

    public static void main(String[] args) throws Exception {
        Due due = new Due("AnyArgumentsTest");
        List<Method> face = new ArrayList<>();
        for (Method m : BirdThatDrinks.class.getDeclaredMethods()) {
            if (Modifier.isPublic(m.getModifiers())) {
                face.add(m);
            }
        }
        face.sort(Comparator.comparing(Method::getName));
        for (int state = 0; state < 7; state++) {
            for (Method m : face) {
                askAll(due, m, state);
            }
        }
        longestLife(due);
        due.end();
    }

    private static BirdThatDrinks inState(int state) {
        BirdThatDrinks x = new BirdThatDrinks();
        switch (state) {
            case 1:
                x.run(50);
                break;
            case 2:
                x.wet(4000);
                x.run(266);
                break;
            case 3:
                x.set(2, 10);
                x.set(1, 1);
                x.set(10, 9);
                x.set(3, 9);
                x.run(3000);
                break;
            case 4:
                fill(x);
                break;
            case 5:
                fill(x);
                x.image();
                x.run(2);
                break;
            case 6:
                x.glass(0);
                x.set(4, 99);
                x.run(3000);
                break;
            default:
        }
        return x;
    }

    /** The greatest of all settings, and no room anywhere. */
    private static void fill(BirdThatDrinks x) {
        int[] greatest = {99, 99, 99, 9, 99, 9, 4, 1, 99, 9, 9, 400, 1, 1, 999};
        for (int i = 0; i < greatest.length; i++) {
            x.set(i, greatest[i]);
        }
        Due.book(x, "d0:1;d0:1;d0:1;d0:1;d0:1;d0:1;d0:1;d0:1;d0:1;d0:1;");
        Due.book(x, "d0:1;d0:1;d0:1;d0:1;d0:1;d0:1;d0:1;d0:1;d0:1;d0:1;");
        for (int i = 0; i < 10; i++) {
            x.gap(i);
        }
        for (int i = 0; i < 8; i++) {
            x.feed(8, -1L);
        }
    }

    private static void askAll(Due due, Method m, int state) throws Exception {
        int many = m.getParameterCount();
        BirdThatDrinks x = inState(state);
        int left = CALLS;
        for (int i = 0; i < 48; i++) {
            Object[] args = new Object[many];
            for (int k = 0; k < many; k++) {
                int v = NUMBERS[(i * (3 * k + 1) + k * 7) % NUMBERS.length];
                args[k] = m.getParameterTypes()[k] == long.class ? (Object) (v * 4294967311L) : (Object) v;
            }
            left -= CALLS_PER_ASK;
            if (left < 0) {
                x = inState(state);
                left = CALLS;
            }
            ask(due, m, x, args);
        }
    }

    private static void ask(Due due, Method m, BirdThatDrinks x, Object[] args) throws Exception {
        int before = refusals(x);
        try {
            int answer = (int) m.invoke(x, args);
            boolean refused = answer > 1000000000 || answer <= -1 && answer >= -6
                && !m.getName().equals("now");
            due.is(m.getName() + java.util.Arrays.toString(args) + " counts a refusal",
                refusals(x) - before, refused ? 1 : 0);
        } catch (InvocationTargetException e) {
            due.isTrue(m.getName() + java.util.Arrays.toString(args) + " threw " + e.getCause(), false);
        }
    }

    private static int refusals(BirdThatDrinks x) {
        int all = 0;
        for (int i = 11; i <= 16; i++) {
            all += x.count(i);
        }
        return all;
    }

    /** 512 calls that make every number as great as it can be. */
    private static void longestLife(Due due) {
        BirdThatDrinks x = new BirdThatDrinks();
        fill(x);
        x.set(12, 0);
        x.set(4, 0);
        x.set(6, 1);
        for (int i = 0; i < 150; i++) {
            x.glass(9999);
            x.wet(9900);
            x.run(3000);
        }
        due.is("TIME", x.now(6), 450000);
        due.isTrue("NODS", x.now(7) > 0);
        due.isTrue("GONE", x.now(5) > 0);
        due.is("DAMP is GONE", x.now(4), x.now(5));
    }
}
