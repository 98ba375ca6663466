import java.util.Arrays;
import java.util.function.IntSupplier;

/** Counts and prints the answers that are not the due ones. */
final class Due {
    // Where shown() tells it.
    private static final int GAPS_IN_ROW = 10;

    private final String test;
    private int asked = 0;
    private int wrong = 0;
    // The sentence of the document that is tested, if it is told, and how much was asked ahead of it.
    private String sentence = "";
    private int askedAhead = -1;
    private int sentences = 0;

    Due(String test) {
        this.test = test;
    }

    /** What is asked from here on tests this sentence, as the document has it. */
    void sentence(String told) {
        isNotEmpty();
        sentence = told;
        askedAhead = asked;
        sentences++;
    }

    private void isNotEmpty() {
        if (asked == askedAhead) {
            wrong++;
            System.out.println(test + ": \"" + sentence + "\" is not tested");
        }
    }

    void is(String call, long got, long want) {
        asked++;
        if (got != want) {
            wrong++;
            if (wrong <= 40) {
                System.out.println(test + ": " + (sentence.isEmpty() ? "" : "\"" + sentence + "\": ")
                    + call + " answered " + got + ", due is " + want);
            }
        }
    }

    void isTrue(String what, boolean so) {
        is(what, so ? 1 : 0, 1);
    }

    void end() {
        isNotEmpty();
        System.out.println(test + ": " + (sentences == 0 ? "" : sentences + " sentences, ")
            + asked + " answers, " + wrong + " not as due");
        if (wrong != 0 || asked == 0) {
            System.exit(1);
        }
    }

    /** The call answers the refusal, which alone is counted, once; nothing else changes. */
    void refuses(BirdThatDrinks x, int refusal, String call, IntSupplier asked) {
        long[] before = shown(x);
        int answer = asked.getAsInt();
        long[] after = shown(x);
        is(call, answer >= 1000000001 ? 1000000000 - answer : answer, refusal);
        before[10 - refusal - 11]++;
        isTrue(call + " changes nothing but how many refusals there were", Arrays.equals(before, after));
    }

    /** The call answers as is due and changes nothing that shows. */
    void inMind(BirdThatDrinks x, String call, IntSupplier asked, int want) {
        long[] before = shown(x);
        is(call, asked.getAsInt(), want);
        isTrue(call + " changes nothing", Arrays.equals(before, shown(x)));
    }

    /** As inMind(), but that the ROW has none then. */
    void inMindBut(BirdThatDrinks x, String call, IntSupplier asked, int want) {
        long[] before = shown(x);
        is(call, asked.getAsInt(), want);
        before[GAPS_IN_ROW] = 0;
        isTrue(call + " changes nothing but the ROW", Arrays.equals(before, shown(x)));
    }

    /** How many refusals there were (6 numbers), then all else that an object shows without a refusal. */
    static long[] shown(BirdThatDrinks x) {
        long[] all = new long[96];
        int n = 0;
        for (int i = 11; i <= 16; i++) {
            all[n++] = x.count(i);
        }
        for (int i = 0; i <= 3; i++) {
            all[n++] = x.count(i);
            all[n++] = x.air(i);
        }
        for (int i = 0; i <= 12; i++) {
            all[n++] = x.now(i);
        }
        all[n++] = x.full();
        for (int i = 0; i < 60; i++) {
            all[n++] = x.dot(i);
        }
        return all;
    }

    /** Feeds a text of at most 64 signs, eight at a time. */
    static void feed(BirdThatDrinks x, String text) {
        for (int from = 0; from < text.length(); from += 8) {
            int n = Math.min(8, text.length() - from);
            x.feed(n, bytes(text.substring(from, from + n)));
        }
    }

    static long bytes(String text) {
        long all = 0;
        for (int i = text.length() - 1; i >= 0; i--) {
            all = all << 8 | text.charAt(i);
        }
        return all;
    }

    static int book(BirdThatDrinks x, String text) {
        feed(x, text);
        return x.book();
    }
}
