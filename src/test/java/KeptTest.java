/** Promises 35 to 38: drafts by seeds, the image, how many. */
public final class KeptTest {
    private static final Due DUE = new Due("KeptTest");

    public static void main(String[] args) {
        promise35();
        promise35Book();
        promise36();
        promise37();
        promise38();
        DUE.end();
    }

    private static BirdThatDrinks lived(int tenths) {
        BirdThatDrinks x = new BirdThatDrinks();
        x.set(1, 20);
        x.wet(2000);
        x.run(tenths);
        return x;
    }

    /** NODS more of a real bird whose WIND is told anew in each TENTH that 10 divides. */
    private static int nodsByDrafts(BirdThatDrinks x, int n, int z) {
        int before = x.now(7);
        int time = x.now(6);
        int left = n;
        long seed = z;
        while (left > 0) {
            if (time % 10 == 0) {
                seed = (int) (seed * 1664525 + 1013904223);
                long shown = (seed % 0x80000000L + 0x80000000L) % 0x80000000L;
                x.set(9, (int) (shown / 256 % 10));
            }
            int step = Math.min(left, 10 - time % 10);
            x.run(step);
            time += step;
            left -= step;
        }
        return x.now(7) - before;
    }

    private static void promise35() {
        BirdThatDrinks x = lived(137);
        DUE.refuses(x, -4, "drafts(0, 1)", () -> x.drafts(0, 1));
        DUE.refuses(x, -4, "drafts(-1, 1)", () -> x.drafts(-1, 1));
        DUE.refuses(x, -6, "drafts(3001, 1)", () -> x.drafts(3001, 1));
        int sorts = 0;
        int last = -1;
        for (int z : new int[] {0, 1, -1, 7, -7, Integer.MIN_VALUE, Integer.MAX_VALUE, 123456789}) {
            BirdThatDrinks y = lived(137);
            for (int n : new int[] {1, 3, 100, 700, 1500}) {
                int want = nodsByDrafts(lived(137), n, z);
                DUE.inMind(y, "drafts(" + n + ", " + z + ")", () -> y.drafts(n, z), want);
                sorts += n == 700 && want != last ? 1 : 0;
                last = n == 700 ? want : last;
            }
        }
        DUE.isTrue("seeds differ", sorts > 1);
        DUE.isTrue("drafts(3000, 5) nods", x.drafts(3000, 5) > 10);
    }

    /** A lived bird to whom this BOOK is told then. */
    private static BirdThatDrinks blown(String book, int tenths) {
        BirdThatDrinks x = lived(tenths);
        Due.book(x, book);
        return x;
    }

    /** From the first TENTH that 10 divides on no WIND but the drawn one blows, whatever the BOOK tells. */
    private static void promise35Book() {
        for (String wind : new String[] {"w0:0;", "w0:9;", "w0:2;w45:9;w200:0;", "w33:9;w35:0;w9999:3;"}) {
            for (int n : new int[] {1, 60, 300, 900, 2400}) {
                // At TIME 30, a TENTH that 10 divides, a DRAW is the WIND at once.
                int want = nodsByDrafts(lived(30), n, 4);
                BirdThatDrinks x = blown(wind, 30);
                DUE.inMind(x, wind + " drafts(" + n + ", 4)", () -> x.drafts(n, 4), want);
            }
        }
        BirdThatDrinks still = blown("w0:0;", 30);
        BirdThatDrinks drawn = blown("w0:0;", 30);
        DUE.isTrue("a DRAW and the BOOK's WIND are told apart", still.often(900) != drawn.drafts(900, 4));
        promise35Told();
        promise35Ahead();
        promise35Behind();
    }

    /** The run that was told as a fault, and the other things of the BOOK, which stay. */
    private static void promise35Told() {
        BirdThatDrinks x = new BirdThatDrinks();
        DUE.is("w0:0;", Due.book(x, "w0:0;"), 1);
        x.wet(2000);
        DUE.inMind(x, "w0:0; drafts(200, 0)", () -> x.drafts(200, 0), 1);
        DUE.inMind(x, "w0:0; often(200)", () -> x.often(200), 0);
        String others = "d50:90;l100:4;r200:310;d300:5;l400:0;";
        int want = nodsByDrafts(blown(others, 30), 1500, -3);
        BirdThatDrinks y = blown(others, 30);
        Due.book(y, "w0:0;w77:9;");
        DUE.inMind(y, "DRY, LAMP, ROOM of the BOOK, drafts(1500, -3)", () -> y.drafts(1500, -3), want);
        DUE.isTrue("they count", want != nodsByDrafts(lived(30), 1500, -3));
    }

    /** Ahead of the first TENTH that 10 divides the WIND is as the setting and the BOOK give it. */
    private static void promise35Ahead() {
        int unlike = 0;
        for (int from : new int[] {1, 4, 9, 11, 20, 32}) {
            for (String wind : new String[] {"w0:0;", "w0:9;", "w3:0;w7:9;", "w9999:9;"}) {
                BirdThatDrinks x = blown(wind, from);
                for (int n = 1; n <= 700; n += n < 11 ? 1 : 7) {
                    int want = nodsAheadAndByDrafts(wind, from, n, 11);
                    DUE.is(wind + " from " + from + ", drafts(" + n + ", 11)", x.drafts(n, 11), want);
                    unlike += nodsByDrafts(lived(from), n, 11) == want ? 0 : 1;
                }
            }
        }
        DUE.isTrue("what is ahead counts", unlike > 0);
    }

    /** By two real birds: one has the BOOK and tells its WIND; the other has none and blows as he is told. */
    private static int nodsAheadAndByDrafts(String wind, int from, int n, int z) {
        BirdThatDrinks teller = blown(wind, from);
        BirdThatDrinks x = lived(from);
        int before = x.now(7);
        int left = n;
        for (; left > 0 && x.now(6) % 10 != 0; left--) {
            x.set(9, teller.air(1));
            teller.run(1);
            x.run(1);
        }
        return x.now(7) - before + nodsByDrafts(x, left, z);
    }

    /** A DRAW is gone with its call: no other call has it as WIND, nor do later drafts ahead of their first. */
    private static void promise35Behind() {
        BirdThatDrinks x = lived(31);
        BirdThatDrinks y = lived(31);
        for (int z = 0; z < 20; z++) {
            x.drafts(100 + z, z);
            DUE.is("often(1000)", x.often(1000), y.often(1000));
            x.drafts(100 + z, z);
            DUE.is("law(60, 1000)", x.law(60, 1000), y.law(60, 1000));
            x.drafts(100 + z, z);
            DUE.is("drinks(1000)", x.drinks(1000), y.drinks(1000));
            x.drafts(100 + z, z);
            DUE.is("together(1)", x.together(1), y.together(1));
            x.drafts(100 + z, z);
            DUE.is("run(50)", x.run(50), y.run(50));
            DUE.is("HEAD", x.now(0), y.now(0));
        }
    }

    private static void promise36() {
        BirdThatDrinks x = new BirdThatDrinks();
        DUE.is("image()", x.image(), 0);
        x.run(17);
        DUE.inMind(x, "image()", x::image, 17);
    }

    private static void promise37() {
        BirdThatDrinks x = new BirdThatDrinks();
        DUE.refuses(x, -3, "on()", x::on);
        x.wet(2000);
        Due.book(x, "d0:80;");
        x.run(500);
        x.glass(77);
        DUE.is("image()", x.image(), 500);
        long[] then = Due.shown(x);
        int often = x.often(1000);
        int full = x.full();
        Due.book(x, "d0:10;l0:9;r0:390;");
        int[] told = {20, 7, 33, 8, 3, 4, 3, 1, 9, 9, 9, 333, 1, 1, 444};
        int[] was = new int[15];
        for (int i = 0; i < 15; i++) {
            was[i] = x.set(i, told[i]);
        }
        x.glass(4000);
        x.run(900);
        x.feed(3, 0);
        x.gap(5);
        x.gap(6);
        x.set(99, 0);
        DUE.is("on()", x.on(), 500);
        DUE.is("THE TAPE stays", x.count(3), 3);
        DUE.is("the ROW stays", x.count(2), 2);
        DUE.is("REFUSALS stay, -2", x.count(12), 1);
        DUE.is("REFUSALS stay, -3", x.count(13), 1);
        x.judge(0);
        x.book();
        then[1] = 1;
        long[] now = Due.shown(x);
        for (int i = 0; i < then.length; i++) {
            DUE.is("as then, " + i, now[i], then[i]);
        }
        DUE.is("full()", x.full(), full);
        DUE.is("often(1000)", x.often(1000), often);
        x.run(100);
        DUE.is("on() again", x.on(), 500);
        for (int i = 0; i < 15; i++) {
            DUE.is("set " + i + " as then", x.set(i, told[i]), was[i]);
        }
        x.run(40);
        DUE.is("image() anew", x.image(), 540);
        x.run(40);
        DUE.is("on() from the new one", x.on(), 540);
        DUE.is("its settings", x.set(0, 40), 20);
        isExactlyAsThen();
    }

    /** COLD and the TENTHS of a state, which are shown later only, are as then, too. */
    private static void isExactlyAsThen() {
        BirdThatDrinks x = new BirdThatDrinks();
        x.run(40);
        x.image();
        x.wet(3000);
        x.run(300);
        x.on();
        x.run(9);
        DUE.is("COLD 49", x.now(8), 0);
        x.run(1);
        DUE.is("COLD 50", x.now(8), 5);
        BirdThatDrinks y = lived(0 + 1);
        for (int i = 0; i < 300 && y.now(8) != 1; i++) {
            y.run(1);
        }
        y.run(7);
        int swing = y.now(10);
        y.image();
        y.run(200);
        y.on();
        DUE.is("SWING", y.now(10), swing);
        DUE.is("SINCE", y.now(9), 7);
        y.run(2);
        DUE.is("SWING's third TENTH", y.now(10), swing / 8 * 7);
        BirdThatDrinks other = new BirdThatDrinks();
        DUE.refuses(other, -3, "another object has no image, on()", other::on);
    }

    private static void promise38() {
        BirdThatDrinks x = new BirdThatDrinks();
        for (int what : new int[] {Integer.MIN_VALUE, -1, 4, 5, 10, 17, Integer.MAX_VALUE}) {
            DUE.inMind(x, "count(" + what + ")", () -> x.count(what), -9);
        }
        x.odds(0, 0, 0, 0);
        for (int i = 0; i < 2; i++) {
            x.longer(2);
        }
        for (int i = 0; i < 3; i++) {
            x.on();
        }
        for (int i = 0; i < 4; i++) {
            x.run(0);
        }
        for (int i = 0; i < 6; i++) {
            x.run(3001);
        }
        int[] want = {1, 2, 3, 4, 0, 6};
        for (int i = 0; i < 6; i++) {
            DUE.is("count(" + (11 + i) + ")", x.count(11 + i), want[i]);
        }
        x.now(99);
        DUE.is("now(99) is counted, count(12)", x.count(12), 3);
        x.feed(8, 0);
        x.gap(0);
        DUE.is("count(3)", x.count(3), 8);
        DUE.is("count(2)", x.count(2), 1);
        x.book();
        Due.book(x, "d0:1;d0:2;");
        DUE.is("count(1)", x.count(1), 2);
        DUE.is("count(0)", x.count(0), 0);
        BirdThatDrinks y = lived(500);
        DUE.is("count(0)", y.count(0), y.now(7));
    }
}
