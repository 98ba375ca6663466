import java.util.Arrays;
import java.util.function.IntSupplier;

/** Counts and prints the answers that are not the due ones. */
final class Due {
    // Where glance() tells it.
    private static final int GAPS_IN_ROW = 0;

    private final String test;
    private int asked = 0;
    private int wrong = 0;
    // The sentence of the document that is tested, if it is told, and how much was asked ahead of it.
    private String sentence = "";
    private int askedAhead = -1;
    private int sentences = 0;

    Due(String test) {
        this.test = test;
    }

    /** What is asked from here on tests this sentence, as the document has it. */
    void sentence(String told) {
        isNotEmpty();
        sentence = told;
        askedAhead = asked;
        sentences++;
    }

    private void isNotEmpty() {
        if (asked == askedAhead) {
            wrong++;
            System.out.println(test + ": \"" + sentence + "\" is not tested");
        }
    }

    void is(String call, long got, long want) {
        asked++;
        if (got != want) {
            wrong++;
            if (wrong <= 40) {
                System.out.println(test + ": " + (sentence.isEmpty() ? "" : "\"" + sentence + "\": ")
                    + call + " answered " + got + ", due is " + want);
            }
        }
    }

    void isTrue(String what, boolean so) {
        is(what, so ? 1 : 0, 1);
    }

    void end() {
        isNotEmpty();
        System.out.println(test + ": " + (sentences == 0 ? "" : sentences + " sentences, ")
            + asked + " answers, " + wrong + " not as due");
        if (wrong != 0 || asked == 0) {
            System.exit(1);
        }
    }

    /** The call answers the refusal, which is counted, once; that nothing else changes is RefusedTest's to ask. */
    void refuses(BirdThatDrinks x, int refusal, String call, IntSupplier asked) {
        int before = x.count(10 - refusal);
        int answer = asked.getAsInt();
        is(call, answer >= 1000000001 ? 1000000000 - answer : answer, refusal);
        is(call + ", count(" + (10 - refusal) + ")", x.count(10 - refusal), before + 1);
    }

    /** The call answers as is due and changes nothing at a glance; RefusedTest looks at more. */
    void inMind(BirdThatDrinks x, String call, IntSupplier asked, int want) {
        int[] before = glance(x);
        is(call, asked.getAsInt(), want);
        isTrue(call + " changes nothing", Arrays.equals(before, glance(x)));
    }

    /** As inMind(), but that the ROW has none then. */
    void inMindBut(BirdThatDrinks x, String call, IntSupplier asked, int want) {
        int[] before = glance(x);
        is(call, asked.getAsInt(), want);
        before[GAPS_IN_ROW] = 0;
        isTrue(call + " changes nothing but the ROW", Arrays.equals(before, glance(x)));
    }

    private static int[] glance(BirdThatDrinks x) {
        return new int[] {x.count(2), x.now(2), x.now(6), x.now(7), x.now(11), x.count(0)};
    }

    /** How many refusals there were (6 numbers), then all else that an object shows without a refusal. */
    static long[] shown(BirdThatDrinks x) {
        long[] all = new long[96];
        int n = 0;
        for (int i = 11; i <= 16; i++) {
            all[n++] = x.count(i);
        }
        for (int i = 0; i <= 3; i++) {
            all[n++] = x.count(i);
            all[n++] = x.air(i);
        }
        for (int i = 0; i <= 12; i++) {
            all[n++] = x.now(i);
        }
        all[n++] = x.full();
        for (int i = 0; i < 60; i++) {
            all[n++] = x.dot(i);
        }
        return all;
    }

    /** Feeds a text of at most 64 signs, eight at a time. */
    static void feed(BirdThatDrinks x, String text) {
        for (int from = 0; from < text.length(); from += 8) {
            int n = Math.min(8, text.length() - from);
            x.feed(n, bytes(text.substring(from, from + n)));
        }
    }

    static long bytes(String text) {
        long all = 0;
        for (int i = text.length() - 1; i >= 0; i--) {
            all = all << 8 | text.charAt(i);
        }
        return all;
    }

    static int book(BirdThatDrinks x, String text) {
        feed(x, text);
        return x.book();
    }
}
