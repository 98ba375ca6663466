import java.math.BigInteger;
import java.util.Arrays;

/** The DRAW, THE IMAGE and count: promises 35 to 38. */
public final class EdgesOfKeptTest {
    private static final Due DUE = new Due("EdgesOfKeptTest");

    public static void main(String[] args) {
        drawWraps();
        drawBelowTen();
        tenthThatTenDivides();
        draftsInTenths();
        draftsRange();
        imageTime();
        imageSettings();
        imageBook();
        imageGlassAndNow();
        imageStates();
        imageCold();
        imageDrum();
        imageStays();
        imageAnew();
        onNone();
        counts();
        DUE.end();
    }

    /** The next z, with whole numbers that have no end, wrapped around as an int is. */
    private static int next(int z) {
        BigInteger all = BigInteger.ONE.shiftLeft(32);
        BigInteger next = BigInteger.valueOf(z).multiply(BigInteger.valueOf(1664525))
            .add(BigInteger.valueOf(1013904223));
        BigInteger cut = next.mod(all);
        return cut.testBit(31) ? cut.subtract(all).intValueExact() : cut.intValueExact();
    }

    private static int drawOf(int z) {
        BigInteger plain = BigInteger.valueOf(z).mod(BigInteger.ONE.shiftLeft(31));
        return plain.divide(BigInteger.valueOf(256)).mod(BigInteger.TEN).intValueExact();
    }

    /** A bird at TIME 0 to whom it matters in each TENTH how much wind blows. */
    private static BirdThatDrinks windy(int crack) {
        BirdThatDrinks x = new BirdThatDrinks();
        x.set(Poised.STUFF, 20);
        x.set(Poised.PEG, 12);
        x.set(Poised.DRY, 77);
        x.set(Poised.SORT, 5);
        x.set(Poised.CRACK, crack);
        x.wet(3000);
        return x;
    }

    /** NODS in n TENTHS of a real bird whose WIND is told anew at each TIME that 10 divides. */
    private static int nodsBy(BirdThatDrinks x, int n, int z) {
        int seed = z;
        int before = x.now(7);
        int time = x.now(6);
        for (int left = n; left > 0;) {
            if (time % 10 == 0) {
                seed = next(seed);
                x.set(Poised.WIND, drawOf(seed));
            }
            int step = Math.min(left, 10 - time % 10);
            x.run(step);
            time += step;
            left -= step;
        }
        return x.now(7) - before;
    }

    private static void drawWraps() {
        DUE.sentence("z becomes z times 1664525 and 1013904223 (an int); (z without its sign's bit by 256, cut)");
        int[] seeds = {0, 1, -1, 255, 256, 681, 682, -609, -610, 2147483647, -2147483648, 1290, 1291, 1013904223,
            -1013904223, 65536, -65536, 1 << 30, -(1 << 30), 123456789, -987654321};
        int below = 0;
        int above = 0;
        int unlike = 0;
        for (int seed : seeds) {
            int n = 400;
            int want = nodsBy(windy(3), n, seed);
            DUE.is("drafts(" + n + ", " + seed + ")", windy(3).drafts(n, seed), want);
            for (int crack = 0; crack <= 24; crack += 6) {
                want = nodsBy(windy(crack), 250, seed);
                DUE.is("drafts(250, " + seed + "), CRACK " + crack, windy(crack).drafts(250, seed), want);
                unlike += want == windy(crack).drafts(250, 4242) ? 0 : 1;
            }
            below += next(seed) < 0 ? 1 : 0;
            above += next(seed) > 0 ? 1 : 0;
        }
        DUE.isTrue("with a sign's bit and without", below > 3 && above > 3);
        DUE.isTrue("the seed counts", unlike > 10);
    }

    private static void drawBelowTen() {
        DUE.sentence("A DRAW below m: .. modulo m (WIND is a DRAW below 10)");
        int[] first = new int[10];
        Arrays.fill(first, -1);
        int seen = 0;
        for (int z = 0; seen < 10 && z < 100000; z += 7) {
            int draw = drawOf(next(z));
            if (first[draw] < 0) {
                first[draw] = z;
                seen++;
            }
        }
        DUE.is("each DRAW of 0 .. 9 has a seed", seen, 10);
        for (int draw = 0; draw <= 9; draw++) {
            for (int dry = 1; dry <= 99; dry++) {
                DUE.is("DRAW " + draw + ", DRY " + dry, oneDraw(dry).drafts(10, first[draw]), oneWind(dry, draw));
            }
            DUE.isTrue("DRAW " + draw + " is told from the next", draw == 9 || isTold(first[draw], first[draw + 1]));
        }
    }

    private static boolean isTold(int z, int other) {
        for (int dry = 1; dry <= 99; dry++) {
            if (oneDraw(dry).drafts(10, z) != oneDraw(dry).drafts(10, other)) {
                return true;
            }
        }
        return false;
    }

    /** He NODS in ten TENTHS at once, if it is dry and windy enough for that. */
    private static BirdThatDrinks oneDraw(int dry) {
        BirdThatDrinks x = new BirdThatDrinks();
        x.set(Poised.STUFF, 10);
        x.set(Poised.PEG, 1);
        x.set(Poised.DRY, dry);
        x.wet(4000);
        return x;
    }

    private static int oneWind(int dry, int wind) {
        BirdThatDrinks x = oneDraw(dry);
        x.set(Poised.WIND, wind);
        return x.run(10);
    }

    private static void tenthThatTenDivides() {
        DUE.sentence("DRAFTS: NODS in n TENTHS with a seed z: at each TENTH that 10 divides WIND is a DRAW below 10");
        for (int wind = 0; wind <= 9; wind += 9) {
            int told = 0;
            for (int from = 1; from <= 21; from++) {
                for (int n = 1; n <= 60; n++) {
                    int want = nodsBy(at(from, wind), n, 77);
                    DUE.is("from TIME " + from + ", drafts(" + n + ", 77)", at(from, wind).drafts(n, 77), want);
                    told += want == at(from, wind).often(n) ? 0 : 1;
                }
            }
            DUE.isTrue("the DRAWS count", told > 40);
        }
    }

    private static BirdThatDrinks at(int time, int wind) {
        BirdThatDrinks x = oneDraw(28);
        x.set(Poised.SORT, 7);
        x.set(Poised.WIND, wind);
        x.run(time);
        return x;
    }

    private static void draftsInTenths() {
        DUE.sentence("NODS in n TENTHS");
        for (int at = 0; at <= 4; at++) {
            Poised p = Poised.tipping(10);
            if (at > 0) {
                p.tenths(at, 1);
            }
            for (int n = 1; n <= 6; n++) {
                DUE.is("drafts(" + n + ", 0) in TENTH " + at + " of TIPPING", p.x.drafts(n, 0), n + at >= 5 ? 1 : 0);
            }
        }
        for (int n = 1; n <= 30; n++) {
            BirdThatDrinks x = at(3, 0);
            int often = x.often(60);
            x.drafts(n, n);
            DUE.is("often(60) behind drafts(" + n + ")", x.often(60), often);
            DUE.is("drafts(7, 0) ahead of a DRAW behind drafts(" + n + ")", x.drafts(7, 0), x.often(7));
        }
        for (int lamp : new int[] {1, 2993, 2994, 2995}) {
            BirdThatDrinks x = new BirdThatDrinks();
            x.set(Poised.PEG, 1);
            x.set(Poised.STUFF, 10);
            x.set(Poised.SORT, 9);
            Due.book(x, "l" + lamp + ":9;");
            DUE.is("drafts(3000, 1), LAMP from " + lamp, Math.min(1, x.drafts(3000, 1)), lamp <= 2994 ? 1 : 0);
            DUE.is("drafts(2999, 1), LAMP from " + lamp, Math.min(1, x.drafts(2999, 1)), lamp <= 2993 ? 1 : 0);
        }
    }

    private static void draftsRange() {
        DUE.sentence("DRAFTS. -4; -6 3000.");
        BirdThatDrinks x = windy(0);
        DUE.is("drafts(0, 1)", x.drafts(0, 1), -4);
        DUE.is("drafts(1, 1)", x.drafts(1, 1), 0);
        DUE.is("drafts(2400, 1)", x.drafts(2400, 1), nodsBy(windy(0), 2400, 1));
        DUE.isTrue("drafts(3000, 1) is one more or some", x.drafts(3000, 1) > x.drafts(2400, 1));
        DUE.is("drafts(3001, 1)", x.drafts(3001, 1), -6);
    }

    private static void imageTime() {
        DUE.sentence("THE IMAGE is taken: TIME. ON from it: TIME.");
        for (int time : new int[] {0, 1, 3000, 3001}) {
            BirdThatDrinks x = new BirdThatDrinks();
            if (time > 0) {
                x.run(Math.min(time, 3000));
            }
            if (time > 3000) {
                x.run(time - 3000);
            }
            DUE.is("image()", x.image(), time);
            DUE.is("now(6)", x.now(6), time);
            x.run(7);
            DUE.is("on()", x.on(), time);
            DUE.is("now(6)", x.now(6), time);
            DUE.is("on() at once", x.on(), time);
        }
    }

    private static void imageSettings() {
        DUE.sentence("THE IMAGE: settings");
        int[] other = {99, 1, 10, 9, 99, 9, 4, 1, 99, 9, 9, 400, 1, 1, 999};
        for (int what = 0; what < other.length; what++) {
            BirdThatDrinks x = new BirdThatDrinks();
            x.image();
            x.set(what, other[what]);
            x.on();
            DUE.is("setting " + what + " as it was", x.set(what, other[what]), Whole.FIRST[what]);
            x.image();
            x.set(what, Whole.FIRST[what]);
            x.on();
            DUE.is("setting " + what + " as told", x.set(what, Whole.FIRST[what]), other[what]);
        }
    }

    private static void imageBook() {
        DUE.sentence("the BOOK");
        for (int many = 0; many <= 20; many++) {
            BirdThatDrinks x = new BirdThatDrinks();
            for (int i = 0; i < many; i++) {
                Due.book(x, "d" + i + ":" + i + ";");
            }
            x.image();
            DUE.is("one more", Due.book(x, "d0:77;"), many < 20 ? 1 : -2000);
            x.on();
            DUE.is("count(1)", x.count(1), many);
            DUE.is("air(0)", x.air(0), many > 0 ? 0 : 50);
            x.run(25);
            DUE.is("air(0) behind all", x.air(0), many > 0 ? many - 1 : 50);
            x.on();
            DUE.is("one more from it on", Due.book(x, "d0:77;"), many < 20 ? 1 : -2000);
        }
        BirdThatDrinks x = new BirdThatDrinks();
        Due.book(x, "w0:5;");
        x.image();
        Due.book(x, "w0:6;");
        DUE.is("air(1)", x.air(1), 6);
        x.on();
        DUE.is("air(1) as then", x.air(1), 5);
    }

    private static void imageGlassAndNow() {
        DUE.sentence("GLASS, NOW");
        BirdThatDrinks x = windy(2);
        x.set(Poised.LAMP, 1);
        x.run(64);
        x.image();
        long[] then = Due.shown(x);
        x.glass(9999);
        x.wet(0);
        x.set(Poised.LAMP, 7);
        x.run(131);
        long[] later = Due.shown(x);
        x.on();
        long[] again = Due.shown(x);
        for (int i = 0; i < then.length; i++) {
            DUE.is("shown " + i, again[i], then[i]);
        }
        int unlike = 0;
        for (int i = 0; i < then.length; i++) {
            unlike += later[i] == then[i] ? 0 : 1;
        }
        DUE.isTrue("much was unlike: " + unlike, unlike >= 10);
    }

    private static Poised inState(int kind) {
        switch (kind) {
            case Poised.SWINGING:
                Poised swinging = Poised.swinging();
                swinging.tenths(7, 1);
                return swinging;
            case Poised.TIPPING:
                Poised tipping = Poised.tipping(400);
                tipping.tenths(3, 1);
                return tipping;
            case Poised.EMPTYING:
                Poised emptying = Poised.emptying(400);
                emptying.tenths(2, 1);
                return emptying;
            case Poised.HANGING: return Poised.hanging();
            case Poised.STOPPED: return Poised.stopped(60, 700);
            case Poised.DRIED: return Poised.dried(60, 700);
            default: return new Poised(60).raised(1234);
        }
    }

    private static void goOnLikeEachOther(Poised p, Poised q, String when) {
        for (int press : new int[] {2, 0, 5, -7, 1, 0, 33, -20}) {
            for (int what = 0; what <= 12; what++) {
                DUE.is(when + ", now(" + what + ")", p.x.now(what), q.x.now(what));
            }
            p.tenth(press);
            q.tenth(press);
        }
        DUE.is(when + ", colder", p.tenths(60, 0), q.tenths(60, 0));
        DUE.is(when + ", warmer", p.tenths(20, 54), q.tenths(20, 54));
        DUE.is(when + ", UP", p.up(), q.up());
    }

    /** From each STATE on all goes as it went. */
    private static void imageStates() {
        DUE.sentence("ON from it all is as then");
        for (int kind = Poised.RISING; kind <= Poised.DRIED; kind++) {
            for (int other = Poised.RISING; other <= Poised.DRIED; other++) {
                Poised p = inState(kind);
                DUE.is("KIND", p.kind(), kind);
                p.x.image();
                comeTo(p, other);
                p.x.on();
                goOnLikeEachOther(p, inState(kind), "in " + kind + " out of " + other);
            }
        }
        for (int time = 1; time <= 200; time += 3) {
            BirdThatDrinks x = windy(4);
            BirdThatDrinks y = windy(4);
            x.run(time);
            y.run(time);
            x.image();
            x.set(Poised.CRACK, 90);
            x.run(100);
            x.glass(0);
            x.run(33);
            x.on();
            // The image is not touched by what comes behind it.
            x.run(40);
            x.on();
            x.run(40);
            y.run(40);
            DUE.isTrue("all as without it, TIME " + time, Arrays.equals(Due.shown(x), Due.shown(y)));
        }
    }

    /** Some other STATE, by whatever it takes. */
    private static void comeTo(Poised p, int kind) {
        p.with(Poised.STUFF, 10).with(Poised.LIFT, 9).with(Poised.PEG, kind == Poised.HANGING ? 99 : 1);
        if (kind == Poised.STOPPED || kind == Poised.DRIED) {
            p.with(Poised.PEG, 99);
            p.x.wet(0);
            p.x.glass(kind == Poised.DRIED ? 0 : 9999);
            p.tenths(60, 1);
            p.tenths(30, -45);
            p.tenths(50, 0);
        }
        p.press(54);
        for (int i = 0; i < 40 && p.kind() != kind; i++) {
            p.x.run(3);
        }
    }

    private static void imageCold() {
        DUE.sentence("NOW as then: what STOPS him, too");
        for (int n = 1; n <= 50; n++) {
            Poised p = new Poised(60);
            p.tenths(n, 0);
            p.x.image();
            p.tenths(60, n % 2);
            p.x.on();
            DUE.is("COLD " + n, p.kind(), n < 50 ? Poised.RISING : Poised.STOPPED);
            if (n < 49) {
                DUE.is("COLD 49", p.tenths(49 - n, 0), Poised.RISING);
            }
            DUE.is("COLD 50", p.tenth(0), Poised.STOPPED);
        }
    }

    private static void imageDrum() {
        DUE.sentence("the DRUM");
        for (int many : new int[] {0, 1, 59, 60}) {
            int[] dots = new int[many];
            for (int i = 0; i < many; i++) {
                dots[i] = 9 + 7 * i;
            }
            BirdThatDrinks x = Poised.dots(dots);
            x.image();
            x.set(Poised.CRACK, 48);
            x.run(100);
            DUE.is("DOTS later", x.count(0), Math.min(60, many + 1) == 60 ? 60 : x.count(0));
            x.on();
            DUE.is("DOTS", x.count(0), many);
            DUE.is("NODS", x.now(7), many);
            DUE.is("the last", x.dot(Math.max(0, many - 1)), many > 0 ? dots[many - 1] : -9);
            DUE.is("none behind it", x.dot(many), -9);
        }
        BirdThatDrinks x = Poised.dots(9, 20);
        x.image();
        x.set(Poised.CRACK, 48);
        int other = firstLater(x, 0);
        x.on();
        x.set(Poised.CRACK, 54);
        x.run(3);
        x.set(Poised.CRACK, 48);
        DUE.is("a DOT in the place of the other", firstLater(x, 0), other + 3);
    }

    /** The third DOT, when it is there. */
    private static int firstLater(BirdThatDrinks x, int from) {
        for (int i = from; i < 60 && x.count(0) < 3; i++) {
            x.run(1);
        }
        return x.dot(2);
    }

    private static void imageStays() {
        DUE.sentence("(THE TAPE, the ROW and REFUSALS stay)");
        BirdThatDrinks x = Poised.dots(10, 30, 60);
        x.gap(20);
        x.feed(2, Due.bytes("w0"));
        x.now(13);
        x.image();
        x.gap(30);
        x.feed(2, Due.bytes(":7"));
        x.now(13);
        x.on();
        DUE.is("count(2)", x.count(2), 2);
        DUE.is("count(3)", x.count(3), 4);
        DUE.is("count(12)", x.count(12), 2);
        DUE.is("the ROW", x.judge(0), -9);
        x.feed(1, ';');
        DUE.is("THE TAPE", x.book(), 1);
        DUE.is("air(1)", x.air(1), 7);
        x.on();
        DUE.is("the ROW has none still", x.count(2), 0);
        DUE.is("THE TAPE has none still", x.count(3), 0);
        DUE.is("air(1)", x.air(1), 1);
        DUE.is("count(12)", x.count(12), 2);
    }

    private static void imageAnew() {
        DUE.sentence("THE IMAGE is taken");
        BirdThatDrinks x = new BirdThatDrinks();
        x.image();
        x.run(5);
        x.image();
        x.run(5);
        DUE.is("on(): the latest", x.on(), 5);
        x.run(1);
        DUE.is("on(): the same again", x.on(), 5);
        DUE.is("image() of it", x.image(), 5);
        x.run(2);
        DUE.is("image() later", x.image(), 7);
        DUE.is("on()", x.on(), 7);
    }

    private static void onNone() {
        DUE.sentence("-3 there is none.");
        BirdThatDrinks x = new BirdThatDrinks();
        x.run(3);
        DUE.is("on()", x.on(), -3);
        DUE.is("now(6)", x.now(6), 3);
        DUE.is("count(13)", x.count(13), 1);
        DUE.is("image()", x.image(), 3);
        DUE.is("on()", x.on(), 3);
        DUE.is("count(13)", x.count(13), 1);
        DUE.is("another object has none", new BirdThatDrinks().on(), -3);
    }

    private static void counts() {
        DUE.sentence("0 DOTS, 1 STATEMENTS of the BOOK, 2 GAPS in the ROW, 3 bytes on THE TAPE, 11 .. 16 "
            + "REFUSALS -1 .. -6. -9 for another what.");
        BirdThatDrinks x = Poised.dots(10, 30, 60);
        Due.book(x, "d0:1;d0:1;");
        x.gap(1);
        Due.feed(x, "12345");
        int[] want = {3, 2, 1, 5};
        for (int i = 0; i <= 3; i++) {
            DUE.is("count(" + i + ")", x.count(i), want[i]);
        }
        for (int what : new int[] {-1, 4, 5, 9, 10, 17, 18, Integer.MIN_VALUE, Integer.MAX_VALUE}) {
            DUE.is("count(" + what + ")", x.count(what), -9);
        }
        for (int what = 11; what <= 16; what++) {
            DUE.is("count(" + what + ")", x.count(what), 0);
        }
        int[] asked = {-1, -2, -3, -4, -6};
        for (int i = 0; i < asked.length; i++) {
            for (int times = 0; times <= i; times++) {
                DUE.is("a REFUSAL", refusedBy(x, asked[i]), asked[i]);
            }
        }
        int[] counted = {1, 2, 3, 4, 0, 5};
        for (int i = 0; i < 6; i++) {
            DUE.is("count(" + (11 + i) + ")", x.count(11 + i), counted[i]);
        }
    }

    private static int refusedBy(BirdThatDrinks x, int refusal) {
        switch (refusal) {
            case -1: return x.odds(0, 0, 0, 0);
            case -2: return x.longer(2);
            case -3: return x.on();
            case -4: return x.slow(-1);
            default: return x.slow(1000);
        }
    }
}
