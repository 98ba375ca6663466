import java.util.HashSet;
import java.util.Set;
import java.util.function.IntUnaryOperator;

/** Promises 11 to 24: what is in mind, held against real birds that go through the same. */
public final class MindTest {
    private static final Due DUE = new Due("MindTest");
    private static final int GLASS = lived().now(11);

    public static void main(String[] args) {
        refusals();
        promise11();
        promise12();
        promise13();
        promise14();
        promise15();
        promise16();
        promise17();
        promise18();
        promise19();
        promise20();
        promise21();
        promise22();
        promise23();
        promise24();
        lastOfTheirKind();
        DUE.end();
    }

    /** A bird that has lived: with his own settings, a BOOK, a state in the middle. */
    private static BirdThatDrinks lived() {
        BirdThatDrinks x = new BirdThatDrinks();
        x.set(1, 40);
        x.set(9, 3);
        x.wet(3000);
        Due.book(x, "d0:70;l150:4;w300:2;");
        x.glass(300);
        x.run(111);
        return x;
    }

    /** A real fresh bird as lived() thinks of, with settings by pairs. */
    private static BirdThatDrinks fresh(int... pairs) {
        return freshOf(new int[] {1, 40, 9, 3}, GLASS, pairs);
    }

    private static BirdThatDrinks freshOf(int[] own, int glass, int... pairs) {
        BirdThatDrinks x = new BirdThatDrinks();
        for (int i = 0; i + 1 < own.length; i += 2) {
            x.set(own[i], own[i + 1]);
        }
        for (int i = 0; i + 1 < pairs.length; i += 2) {
            x.set(pairs[i], pairs[i + 1]);
        }
        x.glass(glass);
        x.wet(500);
        return x;
    }

    private static int nodsOf(BirdThatDrinks x, int n) {
        return x.run(n);
    }

    private static int firstThat(int from, int to, int step, int n, IntUnaryOperator nods) {
        for (int i = from; step > 0 ? i <= to : i >= to; i += step) {
            if (nods.applyAsInt(i) > 0) {
                return i;
            }
        }
        return -9;
    }

    private static void refusals() {
        BirdThatDrinks x = lived();
        for (int n : new int[] {Integer.MIN_VALUE, -1, 0}) {
            DUE.refuses(x, -4, "often", () -> x.often(n));
            DUE.refuses(x, -4, "law", () -> x.law(100, n));
            DUE.refuses(x, -4, "stops", () -> x.stops(n));
            DUE.refuses(x, -4, "pegs", () -> x.pegs(n, 0));
            DUE.refuses(x, -4, "widest", () -> x.widest(n));
            DUE.refuses(x, -4, "lifts", () -> x.lifts(n));
            DUE.refuses(x, -4, "without", () -> x.without(n));
            DUE.refuses(x, -4, "larger, n", () -> x.larger(5, n));
            DUE.refuses(x, -4, "larger, k", () -> x.larger(n, 3001));
            DUE.refuses(x, -4, "together", () -> x.together(n));
            DUE.refuses(x, -4, "drinks", () -> x.drinks(n));
            DUE.refuses(x, -4, "goes", () -> x.goes(n, 6, 0));
            DUE.refuses(x, -4, "bestRoom", () -> x.bestRoom(n));
            DUE.refuses(x, -4, "latest", () -> x.latest(n));
        }
        for (int n : new int[] {3001, Integer.MAX_VALUE}) {
            DUE.refuses(x, -6, "often", () -> x.often(n));
            DUE.refuses(x, -6, "law", () -> x.law(99, n));
            DUE.refuses(x, -6, "stops", () -> x.stops(n));
            DUE.refuses(x, -6, "lifts", () -> x.lifts(n));
            DUE.refuses(x, -6, "without", () -> x.without(n));
            DUE.refuses(x, -6, "larger, n", () -> x.larger(4, n));
            DUE.refuses(x, -6, "drinks", () -> x.drinks(n));
            DUE.refuses(x, -6, "bestRoom", () -> x.bestRoom(n));
            DUE.refuses(x, -6, "latest", () -> x.latest(n));
        }
        for (int n : new int[] {1001, Integer.MAX_VALUE}) {
            DUE.refuses(x, -6, "pegs", () -> x.pegs(n, 1));
            DUE.refuses(x, -6, "widest", () -> x.widest(n));
        }
        for (int v : new int[] {-1, Integer.MIN_VALUE}) {
            DUE.refuses(x, -4, "law, dry", () -> x.law(v, 3001));
            DUE.refuses(x, -4, "goes, by", () -> x.goes(301, v, 1));
        }
        DUE.refuses(x, -6, "law, dry", () -> x.law(100, 3000));
        DUE.refuses(x, -6, "larger, k", () -> x.larger(5, 3000));
        DUE.refuses(x, -6, "together", () -> x.together(5));
        DUE.refuses(x, -6, "goes, n", () -> x.goes(301, 0, 0));
        DUE.refuses(x, -6, "goes, by", () -> x.goes(300, 6, 0));
        for (int what : new int[] {Integer.MIN_VALUE, -1, 2, Integer.MAX_VALUE}) {
            DUE.refuses(x, -2, "pegs ahead of -4", () -> x.pegs(0, what));
            DUE.refuses(x, -2, "pegs ahead of -6", () -> x.pegs(1001, what));
            DUE.refuses(x, -2, "goes ahead of -4", () -> x.goes(0, -1, what));
            DUE.refuses(x, -2, "goes ahead of -6", () -> x.goes(301, 6, what));
        }
    }

    private static void promise11() {
        BirdThatDrinks x = lived();
        int before = x.now(7);
        DUE.isTrue("he has nodded", before > 0);
        for (int n : new int[] {1, 77, 3000}) {
            BirdThatDrinks y = lived();
            DUE.inMind(x, "often(" + n + ")", () -> x.often(n), y.run(n) - before);
        }
    }

    private static void promise12() {
        BirdThatDrinks x = lived();
        for (int n : new int[] {1, 900, 3000}) {
            for (int dry : new int[] {0, 1, 50, 99}) {
                DUE.inMind(x, "law(" + dry + ", " + n + ")", () -> x.law(dry, n), nodsOf(fresh(8, dry), n));
            }
        }
        DUE.isTrue("LAW is not nothing", x.law(99, 900) > 0);
        x.set(0, 10);
        x.set(14, 300);
        DUE.inMind(x, "law with REACH 300", () -> x.law(60, 3000), nodsOf(fresh(0, 10, 14, 300, 8, 60), 3000));
    }

    private static void promise13() {
        BirdThatDrinks x = lived();
        for (int n : new int[] {1, 50, 100, 300, 3000}) {
            DUE.inMind(x, "stops(" + n + ")", () -> x.stops(n),
                firstThat(0, 99, 1, n, d -> nodsOf(fresh(8, d), n)));
        }
        DUE.isTrue("STOPS is found", x.stops(3000) > 0);
        DUE.is("stops(1)", x.stops(1), -9);
        x.set(10, 9);
        DUE.is("stops(3000), LAMP 9", x.stops(3000), 0);
    }

    private static void promise14() {
        BirdThatDrinks x = lived();
        for (int n : new int[] {1, 60, 200, 1000}) {
            DUE.inMind(x, "pegs(" + n + ", 0)", () -> x.pegs(n, 0),
                firstThat(1, 99, 1, n, p -> nodsOf(fresh(1, p), n)));
            DUE.inMind(x, "pegs(" + n + ", 1)", () -> x.pegs(n, 1),
                firstThat(99, 1, -1, n, p -> nodsOf(fresh(1, p), n)));
        }
        DUE.is("pegs(1, 0)", x.pegs(1, 0), -9);
        DUE.is("pegs(1, 1)", x.pegs(1, 1), -9);
        DUE.is("pegs(200, 0)", x.pegs(200, 0), 1);
        DUE.isTrue("PEGS' greatest is between", x.pegs(60, 1) > 1 && x.pegs(60, 1) < 99);
    }

    private static void promise15() {
        BirdThatDrinks x = lived();
        DUE.is("widest(1): of several the least", x.widest(1), 10);
        DUE.inMind(x, "widest(100)", () -> x.widest(100), widestOf(100, new int[] {1, 40, 9, 3}, GLASS));
        // A high LIFT and much STUFF: FULL of PEG 10 is reached by more airs.
        x.set(2, 99);
        DUE.inMind(x, "widest(1000)", () -> x.widest(1000), widestOf(1000, new int[] {9, 3, 2, 99}, GLASS));
        // With CRACK the driest airs alone do it.
        x.set(4, 20);
        DUE.inMind(x, "widest(300)", () -> x.widest(300), widestOf(300, new int[] {9, 3, 2, 99, 4, 20}, GLASS));
    }

    private static int widestOf(int n, int[] own, int glass) {
        int best = -1;
        int most = -1;
        for (int peg = 10; peg <= 90; peg += 10) {
            int airs = 0;
            for (int dry = 0; dry <= 90; dry += 10) {
                airs += freshOf(own, glass, 1, peg, 8, dry).run(n) > 0 ? 1 : 0;
            }
            if (airs > most) {
                most = airs;
                best = peg;
            }
        }
        return best;
    }

    private static void promise16() {
        BirdThatDrinks x = lived();
        DUE.is("lifts(1): of several the least", x.lifts(1), 0);
        x.set(2, 10);
        x.set(1, 60);
        boolean between = false;
        for (int n : new int[] {50, 130, 260, 700, 3000}) {
            int best = 0;
            int most = 0;
            for (int lift = 0; lift <= 9; lift++) {
                int work = lift * fresh(2, 10, 1, 60, 5, lift).run(n);
                best = work > most ? lift : best;
                most = Math.max(work, most);
            }
            between = between || best > 0 && best < 9;
            DUE.inMind(x, "lifts(" + n + ")", () -> x.lifts(n), best);
        }
        x.set(2, 10);
        x.set(1, 95); // FULL above 100 STUFF with LIFT 6 and more
        DUE.is("LIFTS that can still be lifted", x.lifts(3000), 5);
        DUE.isTrue("LIFTS was between, too", between || x.lifts(3000) == 5);
    }

    private static void promise17() {
        BirdThatDrinks x = lived();
        DUE.inMind(x, "under()", x::under, fresh(12, 1).run(3000));
        x.set(8, 2);
        DUE.inMind(x, "under() with DRY 2", x::under, fresh(8, 2, 12, 1).run(3000));
        x.set(8, 15);
        x.set(9, 6);
        x.set(1, 20);
        int open = fresh(8, 15, 9, 6, 1, 20).run(3000);
        DUE.isTrue("BELL does something", open != x.under());
        DUE.inMind(x, "under() with WIND 6", x::under, fresh(8, 15, 9, 6, 1, 20, 12, 1).run(3000));
        x.set(12, 1);
        DUE.inMind(x, "under() with BELL already", x::under, fresh(8, 15, 9, 6, 1, 20, 12, 1).run(3000));
    }

    private static void promise18() {
        BirdThatDrinks x = lived();
        DUE.is("without(1)", x.without(1), -9);
        for (int black = 0; black <= 1; black++) {
            x.set(7, black);
            for (int n : new int[] {20, 40, 60, 100, 400, 3000}) {
                int want = -9;
                for (int lamp = 0; lamp <= 9 && want < 0; lamp++) {
                    BirdThatDrinks y = fresh(7, black, 10, lamp);
                    y.wet(0);
                    y.glass(0);
                    want = y.run(n) > 0 ? lamp : -9;
                }
                DUE.inMind(x, "without(" + n + ")", () -> x.without(n), want);
            }
        }
        DUE.isTrue("BLACK needs less LAMP", x.without(60) > 0);
        BirdThatDrinks y = lived();
        DUE.isTrue("than without it", y.without(60) > x.without(60) || y.without(60) == -9);
    }

    private static void promise19() {
        BirdThatDrinks x = lived();
        for (int k = 1; k <= 4; k++) {
            int size = k;
            for (int n : new int[] {1, 200, 3000}) {
                DUE.inMind(x, "larger(" + k + ", " + n + ")", () -> x.larger(size, n), fresh(6, size).run(n));
            }
        }
        DUE.isTrue("SIZE does something", x.larger(1, 3000) > x.larger(4, 3000));
    }

    private static void promise20() {
        BirdThatDrinks x = lived();
        x.set(6, 3);
        x.set(2, 10);
        x.set(10, 9);
        x.set(3, 9);
        boolean later = false;
        int found = 0;
        for (int peg : new int[] {40, 55, 70, 85}) {
            x.set(1, peg);
            for (int k = 1; k <= 4; k++) {
                int size = k;
                BirdThatDrinks one = fresh(2, 10, 1, peg, 10, 9, 3, 9, 6, 1);
                BirdThatDrinks other = fresh(2, 10, 1, peg, 10, 9, 3, 9, 6, k);
                // Drums that are full may miss a NOD of both that is behind their last DOTS.
                boolean isAll = one.run(3000) <= 60 & other.run(3000) <= 60;
                int want = firstInBoth(one, other);
                if (want >= 0 || isAll) {
                    later = later || want > one.dot(0);
                    found++;
                    DUE.inMind(x, "together(" + k + "), PEG " + peg, () -> x.together(size), want);
                }
            }
        }
        DUE.isTrue("TOGETHER is not always the first NOD", later && found > 4);
        x.set(8, 0);
        x.set(10, 0);
        DUE.is("TOGETHER where none nods", x.together(1), -9);
    }

    private static int firstInBoth(BirdThatDrinks one, BirdThatDrinks other) {
        Set<Integer> others = new HashSet<>();
        for (int i = 0; i < 60; i++) {
            others.add(other.dot(i));
        }
        for (int i = 0; i < 60; i++) {
            int dot = one.dot(i);
            if (dot >= 0 && others.contains(dot)) {
                return dot;
            }
        }
        return -9;
    }

    private static void promise21() {
        BirdThatDrinks x = lived();
        for (int n : new int[] {1, 100, 3000}) {
            BirdThatDrinks y = lived();
            int before = y.now(11);
            y.run(n);
            DUE.inMind(x, "drinks(" + n + ")", () -> x.drinks(n), before - y.now(11));
        }
        DUE.isTrue("he drinks", x.drinks(3000) >= 5);
        x.glass(7);
        DUE.is("below REACH he does not", x.drinks(3000), 0);
    }

    private static void promise22() {
        for (int by = 0; by <= 5; by++) {
            BirdThatDrinks x = lived();
            for (int n : new int[] {1, 60, 70, 80, 90, 300}) {
                isGoes(x, n, by, 40, 60);
            }
        }
        BirdThatDrinks x = lived();
        DUE.is("goes(1, 5, 0)", x.goes(1, 5, 0), 0);
        DUE.is("goes(1, 5, 1)", x.goes(1, 5, 1), 1);
        DUE.is("goes(300, 0, 0)", x.goes(300, 0, 0), 1);
        DUE.is("goes(300, 0, 1)", x.goes(300, 0, 1), 1);
        x.set(1, 2);
        x.set(2, 98);
        isGoes(x, 300, 3, 2, 98);
        x.set(1, 99);
        x.set(2, 11);
        isGoes(x, 300, 4, 99, 11);
        x.set(1, 1);
        x.set(2, 10);
        isGoes(x, 300, 1, 1, 10);
        DUE.is("of nine pairs four are in range", x.goes(300, 1, 0), 4);
        DUE.is("of nine pairs", x.goes(300, 1, 1), 9);
    }

    private static void isGoes(BirdThatDrinks x, int n, int by, int peg, int stuff) {
        int many = 0;
        for (int p = Math.max(1, peg - by); p <= Math.min(99, peg + by); p++) {
            for (int s = Math.max(10, stuff - by); s <= Math.min(99, stuff + by); s++) {
                many += fresh(1, p, 2, s).run(n) > 0 ? 1 : 0;
            }
        }
        int all = (2 * by + 1) * (2 * by + 1);
        String call = "goes(" + n + ", " + by + ") of PEG " + peg + ", STUFF " + stuff;
        int above = x.goes(n, by, 0);
        int below = x.goes(n, by, 1);
        DUE.is(call + ", the part", (long) above * all, (long) many * below);
        DUE.is(call + ", least terms", java.math.BigInteger.valueOf(above)
            .gcd(java.math.BigInteger.valueOf(below)).intValue(), 1);
        DUE.inMind(x, call + " stays", () -> x.goes(n, by, 1), below);
    }

    private static void promise23() {
        BirdThatDrinks x = new BirdThatDrinks();
        DUE.is("bestRoom(1): of several the least", x.bestRoom(1), 100);
        DUE.is("fresh HEAD and TAIL are of that ROOM", x.bestRoom(500), 100);
        // CRACK and the cut of the cooler let ROOMS differ; the Model figures them.
        int[][] ways = {{9, 9, 3, 1}, {6, 4, 3, 9}, {8, 99, 9, 9}, {3, 2, 4, 9}, {10, 1, 4, 9}, {10, 3, 4, 15}};
        for (int[] way : ways) {
            BirdThatDrinks y = new BirdThatDrinks();
            Model model = new Model();
            for (int i = 0; i < way.length; i += 2) {
                y.set(way[i], way[i + 1]);
                model.set(way[i], way[i + 1]);
            }
            for (int n : new int[] {100, 500, 1501, 3000}) {
                DUE.inMind(y, "bestRoom(" + n + ")", () -> y.bestRoom(n), model.bestRoom(n));
            }
        }
    }

    private static void promise24() {
        BirdThatDrinks x = lived();
        DUE.is("latest(1)", x.latest(1), -9);
        for (int n : new int[] {40, 70, 90, 200, 500, 1000, 3000}) {
            int best = -9;
            int last = -1;
            for (int size = 1; size <= 4; size++) {
                BirdThatDrinks y = fresh(6, size);
                y.run(n);
                int dot = y.dot(y.count(0) - 1);
                best = y.count(0) > 0 && dot > last ? size : best;
                last = y.count(0) > 0 ? Math.max(dot, last) : last;
            }
            DUE.inMind(x, "latest(" + n + ")", () -> x.latest(n), best);
        }
        // More than 60 NODS: the latest is no longer on the drum.
        BirdThatDrinks y = new BirdThatDrinks();
        y.set(2, 10);
        y.set(1, 1);
        y.set(10, 9);
        y.set(3, 9);
        for (int n = 2990; n <= 3000; n++) {
            int best = -9;
            int last = -1;
            for (int size = 1; size <= 4; size++) {
                BirdThatDrinks z = freshOf(new int[] {2, 10, 1, 1, 10, 9, 3, 9}, 500, 6, size);
                int nod = lastNod(z, n);
                best = nod > last ? size : best;
                last = Math.max(last, nod);
                DUE.isTrue("the drum is full long ahead of it", z.dot(59) > 0 && z.dot(59) < nod);
            }
            int many = n;
            DUE.inMind(y, "latest(" + n + "), beyond the drum", () -> y.latest(many), best);
        }
    }

    /** The TENTH of the latest NOD, if it is in the last hundred of n. */
    private static int lastNod(BirdThatDrinks z, int n) {
        int nods = z.run(n - 100);
        int last = -1;
        for (int i = n - 100; i < n; i++) {
            int more = z.run(1);
            last = more > nods ? i : last;
            nods = more;
        }
        return last;
    }

    /** Where one DRY, one TENTH or one of DAMP more would answer something else. */
    private static void lastOfTheirKind() {
        BirdThatDrinks x = freshOf(new int[] {9, 1, 1, 56, 4, 4, 3, 2}, 500);
        DUE.is("a DRY of 100 would do it", x.stops(821), -9);
        BirdThatDrinks y = freshOf(new int[] {9, 1, 1, 12, 4, 0, 3, 6}, 500);
        DUE.is("a DRY of 100 would do it sooner", y.stops(29), -9);
        BirdThatDrinks z = freshOf(new int[] {9, 1, 1, 51, 4, 10, 3, 2, 8, 70}, 500);
        DUE.is("both would NOD in TENTH 3000", z.together(1), -9);
        int nods = z.law(70, 3000);
        z.wet(500);
        DUE.is("up to TENTH 2999", z.run(3000), nods);
        DUE.is("a NOD in TENTH 3000", z.run(1), nods + 1);
        BirdThatDrinks v = freshOf(new int[] {9, 2, 1, 5, 4, 18, 3, 7, 8, 34}, 500);
        int under = v.under();
        v.set(12, 1);
        DUE.is("DAMP of a fresh BIRD is 0", under, v.run(3000));
        BirdThatDrinks w = freshOf(new int[] {9, 2, 1, 9, 4, 27, 3, 5, 8, 46}, 500);
        under = w.under();
        w.set(12, 1);
        DUE.is("DAMP of a fresh BIRD is 0, too", under, w.run(3000));
    }
}
