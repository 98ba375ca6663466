import java.util.Arrays;

/** All that an object shows when it is asked to its end, with what does not show at once. */
final class Whole {
    static final int[] FIRST = {40, 50, 60, 3, 0, 0, 1, 0, 50, 1, 0, 200, 0, 0, 10};
    private static final int REFUSALS = 6;

    private final long[] numbers = new long[512];
    private int size = 0;

    private Whole() {
    }

    /** The object is used up by it. */
    static long[] of(BirdThatDrinks x) {
        Whole all = new Whole();
        for (int i = 11; i < 11 + REFUSALS; i++) {
            all.add(x.count(i));
        }
        for (int i = 0; i <= 3; i++) {
            all.add(x.count(i));
        }
        all.addNow(x);
        all.addRow(x);
        all.addTape(x);
        all.addSettings(x);
        all.addLife(x);
        all.add(x.on());
        all.addNow(x);
        all.addSettings(x);
        all.add(x.count(0));
        all.add(x.count(1));
        all.addLife(x);
        return Arrays.copyOf(all.numbers, all.size);
    }

    /** The same, with so many refusals more by their kinds, -1 first. */
    static long[] withRefusals(long[] whole, int[] more) {
        long[] all = whole.clone();
        for (int i = 0; i < REFUSALS; i++) {
            all[i] += more[i];
        }
        return all;
    }

    private void add(long number) {
        numbers[size] = number;
        size++;
    }

    private void addNow(BirdThatDrinks x) {
        for (int i = 0; i <= 12; i++) {
            add(x.now(i));
        }
        for (int i = 0; i <= 3; i++) {
            add(x.air(i));
        }
        add(x.full());
        for (int i = 0; i < 60; i += i < 4 ? 1 : 5) {
            add(x.dot(i));
        }
    }

    /** The GAPS in the ROW by what they are judged as. */
    private void addRow(BirdThatDrinks x) {
        if (x.count(2) > 0) {
            add(x.driest(40, 2));
        }
        add(x.judge(3));
    }

    /** The bytes on THE TAPE by the BOOK that they make, if there is room for the last of it. */
    private void addTape(BirdThatDrinks x) {
        if (x.count(3) < 64) {
            add(x.feed(1, ';'));
        }
        add(x.book());
        for (int i = 0; i <= 3; i++) {
            add(x.air(i));
        }
    }

    private void addSettings(BirdThatDrinks x) {
        for (int i = 0; i < FIRST.length; i++) {
            int v = x.set(i, FIRST[i]);
            add(v);
            x.set(i, v);
        }
    }

    private void addLife(BirdThatDrinks x) {
        for (int n : new int[] {3, 57, 1100}) {
            add(x.run(n));
            addNow(x);
        }
    }
}
