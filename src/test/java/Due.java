/** Counts and prints the answers that are not the due ones. */
final class Due {
    private final String test;
    private int asked = 0;
    private int wrong = 0;

    Due(String test) {
        this.test = test;
    }

    void is(String call, long got, long want) {
        asked++;
        if (got != want) {
            wrong++;
            if (wrong <= 40) {
                System.out.println(test + ": " + call + " answered " + got + ", due is " + want);
            }
        }
    }

    void isTrue(String what, boolean so) {
        is(what, so ? 1 : 0, 1);
    }

    void end() {
        System.out.println(test + ": " + asked + " answers, " + wrong + " not as due");
        if (wrong != 0 || asked == 0) {
            System.exit(1);
        }
    }

    /** Feeds a text of at most 64 signs, eight at a time. */
    static void feed(BirdThatDrinks x, String text) {
        for (int from = 0; from < text.length(); from += 8) {
            int n = Math.min(8, text.length() - from);
            x.feed(n, bytes(text.substring(from, from + n)));
        }
    }

    static long bytes(String text) {
        long all = 0;
        for (int i = text.length() - 1; i >= 0; i--) {
            all = all << 8 | text.charAt(i);
        }
        return all;
    }

    static int book(BirdThatDrinks x, String text) {
        feed(x, text);
        return x.book();
    }
}
