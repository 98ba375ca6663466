import java.util.ArrayList;
import java.util.Arrays;
import java.util.List;
import java.util.TreeSet;
import java.util.function.IntUnaryOperator;

/** Promises 11 to 24: a NOD in the last of n TENTHS counts and one in the TENTH behind it does not, and so on. */
public final class EdgesInMindTest {
    private static final Due DUE = new Due("EdgesInMindTest");
    private static final int GLASS = 321;
    // Settings by pairs. A fresh BIRD of the first two has his first NOD in TENTH 2999, of the next in 3000.
    private static final int[][] LATE = {
        {1, 85, 2, 72, 3, 4, 4, 21, 5, 6, 6, 1, 8, 28, 9, 8}, {1, 54, 2, 59, 3, 6, 4, 36, 5, 9, 6, 1, 8, 52, 9, 4},
        {1, 70, 2, 89, 3, 5, 4, 27, 5, 1, 6, 1, 8, 97, 9, 2}, {1, 93, 2, 99, 3, 5, 4, 24, 5, 6, 6, 1, 8, 49, 9, 8}};
    // The same of 999 and 1000, and of 299 and 300.
    private static final int[][] BY_1000 = {
        {1, 53, 2, 99, 3, 7, 4, 33, 5, 9, 6, 1, 8, 59, 9, 6}, {1, 95, 2, 75, 3, 9, 4, 14, 5, 8, 6, 2, 8, 73, 9, 9},
        {1, 84, 2, 82, 3, 8, 4, 36, 5, 0, 6, 1, 8, 43, 9, 0}, {1, 95, 2, 75, 3, 4, 4, 11, 5, 1, 6, 1, 8, 62, 9, 4}};
    private static final int[][] BY_300 = {
        {1, 47, 2, 55, 3, 3, 4, 0, 5, 0, 6, 1, 8, 28, 9, 1}, {1, 58, 2, 91, 3, 7, 4, 10, 5, 6, 6, 1, 8, 83, 9, 2},
        {1, 91, 2, 44, 3, 6, 4, 12, 5, 0, 6, 1, 8, 35, 9, 3}, {1, 53, 2, 68, 3, 7, 4, 22, 5, 1, 6, 1, 8, 97, 9, 9}};
    // He NODS as soon as one can: in TENTH 5.
    private static final int[] SOON = {1, 1, 2, 10, 3, 9, 8, 99, 9, 9};
    private static final int[] PLAIN = {1, 40, 9, 3};
    private static final int[] WARM = {1, 30, 2, 40, 10, 2, 3, 5, 8, 20};

    public static void main(String[] args) {
        often();
        fromNowOn();
        law();
        fresh500();
        freshGlass();
        freshNoBook();
        stops();
        pegs();
        widest();
        lifts();
        under();
        underFresh();
        without();
        larger();
        together();
        drinks();
        goes();
        goesOutOfRange();
        goesLeastTerms();
        bestRoom();
        latest();
        DUE.end();
    }

    /** One who has lived with these settings, and has GLASS. */
    private static BirdThatDrinks lived(int... own) {
        BirdThatDrinks x = new BirdThatDrinks();
        x.wet(3500);
        x.run(77);
        x.set(12, 1);
        x.run(3);
        x.set(12, 0);
        tell(x, own);
        x.glass(GLASS);
        return x;
    }

    private static void tell(BirdThatDrinks x, int... pairs) {
        for (int i = 0; i + 1 < pairs.length; i += 2) {
            x.set(pairs[i], pairs[i + 1]);
        }
    }

    /** A real fresh BIRD as lived() has in mind. */
    private static BirdThatDrinks fresh(int[] own, int... unlike) {
        BirdThatDrinks x = new BirdThatDrinks();
        tell(x, own);
        tell(x, unlike);
        x.glass(GLASS);
        x.wet(500);
        return x;
    }

    /** His first DOTS in 3003 TENTHS. */
    private static List<Integer> dots(BirdThatDrinks x) {
        x.run(3000);
        x.run(3);
        List<Integer> dots = new ArrayList<>();
        for (int i = 0; i < x.count(0); i++) {
            dots.add(x.dot(i));
        }
        return dots;
    }

    /** His first DOT; a number that no n reaches, if he has none in 3003 TENTHS. */
    private static int firstDot(BirdThatDrinks x) {
        List<Integer> dots = dots(x);
        return dots.isEmpty() ? 1000000 : dots.get(0);
    }

    /** All n (up to most) that end just ahead of one of these TENTHS, with it, or one behind it. */
    private static TreeSet<Integer> edges(int most, int... tenths) {
        TreeSet<Integer> all = new TreeSet<>(List.of(1, 2, most - 1, most));
        for (int tenth : tenths) {
            all.addAll(List.of(tenth, tenth + 1, tenth + 2));
        }
        all.removeIf(n -> n < 1 || n > most);
        return all;
    }

    private static int[] some(List<Integer> dots) {
        List<Integer> some = new ArrayList<>();
        for (int i = 0; i < dots.size(); i++) {
            if (i < 3 || i >= dots.size() - 3) {
                some.add(dots.get(i));
            }
        }
        return some.stream().mapToInt(d -> d).toArray();
    }

    private static int before(List<Integer> dots, int n) {
        return (int) dots.stream().filter(d -> d < n).count();
    }

    private static void often() {
        DUE.sentence("OFTEN: NODS in n TENTHS.");
        for (int at = 0; at <= 3; at++) {
            Poised p = Poised.tipping(10);
            if (at > 0) {
                p.tenths(at, 1);
            }
            for (int n = 1; n <= 6; n++) {
                DUE.is("often(" + n + ") in TENTH " + at + " of TIPPING", p.x.often(n), n + at >= 5 ? 1 : 0);
            }
        }
        // A LAMP from TENTH t on makes him NOD in TENTH t + 5.
        for (int lamp : new int[] {1, 100, 2993, 2994, 2995}) {
            BirdThatDrinks x = new BirdThatDrinks();
            tell(x, 1, 1, 2, 10, 3, 9);
            Due.book(x, "l" + lamp + ":9;");
            for (int n : edges(3000, lamp + 5)) {
                DUE.is("often(" + n + "), LAMP from " + lamp, Math.min(1, x.often(n)), n > lamp + 5 ? 1 : 0);
            }
            DUE.is("often(3000), LAMP from " + lamp, x.often(3000) > 0 ? 1 : 0, lamp <= 2994 ? 1 : 0);
        }
    }

    private static void fromNowOn() {
        DUE.sentence("What follows is in mind, from now on, unless told");
        BirdThatDrinks x = Poised.dots(10, 20, 30);
        DUE.is("NODS that were are not counted", x.often(1), 0);
        DUE.is("nor GLASS", x.drinks(1), 0);
        DUE.is("now(7)", x.now(7), 3);
        x.set(Poised.CRACK, 48);
        int often = x.often(14);
        DUE.is("often(14)", often, x.run(14) - 3);
        DUE.isTrue("some", often > 0);
    }

    private static void law() {
        DUE.sentence("LAW: NODS in n TENTHS of a fresh BIRD with DRY told.");
        int[][] owns = {SOON, PLAIN, WARM, LATE[0], LATE[1], LATE[2], LATE[3]};
        for (int[] own : owns) {
            for (int dry : new int[] {0, 1, 52, 98, 99}) {
                List<Integer> dots = dots(fresh(own, 8, dry));
                BirdThatDrinks x = lived(own);
                for (int n : edges(3000, some(dots))) {
                    if (dots.size() < 60 || n <= dots.get(59)) {
                        DUE.is("law(" + dry + ", " + n + ")", x.law(dry, n), before(dots, n));
                    }
                }
            }
        }
        for (int i = 0; i < LATE.length; i++) {
            int dry = LATE[i][13];
            DUE.is("law(dry, 2999)", lived(LATE[i]).law(dry, 2999), 0);
            DUE.is("law(dry, 3000)", lived(LATE[i]).law(dry, 3000), i < 2 ? 1 : 0);
        }
        DUE.is("law(99, 5) of the soonest", lived(SOON).law(99, 5), 0);
        DUE.is("law(99, 6) of the soonest", lived(SOON).law(99, 6), 1);
    }

    private static void fresh500() {
        DUE.sentence("a fresh BIRD (NOW as at first, but WET 500");
        // With CRACK all the water that the head has must go OFF at once for a NOD.
        int[] own = {1, 1, 2, 10, 3, 1, 8, 50, 9, 9, 13, 1};
        for (int crack = 0; crack <= 30; crack++) {
            for (int n : new int[] {8, 20, 60}) {
                BirdThatDrinks x = lived(own);
                x.set(Poised.CRACK, crack);
                BirdThatDrinks y = fresh(own, Poised.CRACK, crack);
                DUE.is("law(50, " + n + "), CRACK " + crack, x.law(50, n), y.run(n));
            }
        }
        BirdThatDrinks y = lived(own);
        int wanted = 0;
        for (int crack = 0; crack <= 60; crack++) {
            y.set(Poised.CRACK, crack);
            wanted += y.law(50, 20) > 0 ? 1 : 0;
        }
        DUE.isTrue("some CRACKS are too much", wanted > 3 && wanted < 58);
        for (int wet : new int[] {0, 499, 500, 501, 3000}) {
            BirdThatDrinks x = lived(PLAIN);
            x.wet(wet);
            DUE.is("law(50, 900) with WET " + wet + " now", x.law(50, 900), fresh(PLAIN, 8, 50).run(900));
            x.set(Poised.ROOM, 150);
            DUE.is("in another ROOM", x.law(50, 900), fresh(PLAIN, 8, 50).run(900));
        }
    }

    private static void freshGlass() {
        DUE.sentence("and GLASS as it is");
        for (int glass = 0; glass <= 30; glass++) {
            for (int reach : new int[] {0, 4, 5, 10}) {
                BirdThatDrinks x = lived(PLAIN);
                x.set(Poised.REACH, reach);
                x.glass(glass);
                BirdThatDrinks y = fresh(PLAIN, 8, 60, Poised.REACH, reach);
                y.glass(glass);
                DUE.is("law(60, 3000) with GLASS " + glass + ", REACH " + reach, x.law(60, 3000), y.run(3000));
                y = fresh(PLAIN, Poised.REACH, reach);
                y.glass(glass);
                DUE.is("larger(1, 2000) with GLASS " + glass, x.larger(1, 2000), y.run(2000));
            }
        }
    }

    private static void freshNoBook() {
        DUE.sentence("no BOOK)");
        BirdThatDrinks x = lived(PLAIN);
        BirdThatDrinks y = lived(PLAIN);
        Due.book(y, "d0:99;w0:9;l0:9;r0:400;");
        DUE.is("law(20, 900)", y.law(20, 900), x.law(20, 900));
        DUE.is("stops(900)", y.stops(900), x.stops(900));
        DUE.is("pegs(300, 1)", y.pegs(300, 1), x.pegs(300, 1));
        DUE.is("lifts(900)", y.lifts(900), x.lifts(900));
        DUE.is("under()", y.under(), x.under());
        DUE.is("without(900)", y.without(900), x.without(900));
        DUE.is("larger(2, 900)", y.larger(2, 900), x.larger(2, 900));
        DUE.is("together(2)", y.together(2), x.together(2));
        DUE.is("goes(200, 5, 0)", y.goes(200, 5, 0), x.goes(200, 5, 0));
        DUE.is("latest(900)", y.latest(900), x.latest(900));
        DUE.is("sorts", y.sorts(102030, 0), x.sorts(102030, 0));
        x.gap(150);
        y.gap(150);
        DUE.is("driest(90, 2)", y.driest(90, 2), x.driest(90, 2));
        DUE.isTrue("OFTEN has it", y.often(900) != x.often(900));
    }

    /** Of the numbers from .. to those are asked for the first by which a fresh BIRD NODS in n TENTHS. */
    private static void isFirst(String call, int from, int to, int most, int[] own, int what, IntUnaryOperator asked) {
        int step = from <= to ? 1 : -1;
        int[] first = new int[Math.abs(to - from) + 1];
        for (int i = 0; i < first.length; i++) {
            first[i] = firstDot(fresh(own, what, from + step * i));
        }
        for (int n : edges(most, first)) {
            int want = -9;
            for (int i = first.length - 1; i >= 0; i--) {
                want = first[i] < n ? from + step * i : want;
            }
            DUE.is(call + " of n " + n + " with " + Arrays.toString(own), asked.applyAsInt(n), want);
        }
    }

    private static void stops() {
        DUE.sentence("STOPS: of DRY 0 .. 99 the least with which a fresh BIRD NODS in n TENTHS; -9.");
        for (int[] own : new int[][] {SOON, PLAIN, WARM, LATE[0], LATE[2]}) {
            BirdThatDrinks x = lived(own);
            isFirst("stops", 0, 99, 3000, own, Poised.DRY, x::stops);
        }
        BirdThatDrinks x = lived(WARM);
        DUE.is("DRY 0 does it", x.stops(3000), 0);
        DUE.is("none does it", x.stops(5), -9);
        BirdThatDrinks y = lived(1, 1, 2, 10, 9, 0, 3, 9, 6, 4, 4, 3);
        DUE.is("a high DRY alone does it", y.stops(17), stopsOf(17, 1, 1, 2, 10, 9, 0, 3, 9, 6, 4, 4, 3));
    }

    private static int stopsOf(int n, int... own) {
        for (int dry = 0; dry <= 99; dry++) {
            if (fresh(own, Poised.DRY, dry).run(n) > 0) {
                return dry;
            }
        }
        return -9;
    }

    private static void pegs() {
        DUE.sentence("PEGS: of PEGS 1 .. 99 the least, the greatest with which a fresh BIRD NODS in n TENTHS; -9.");
        int[][] owns = {SOON, PLAIN, WARM, BY_1000[0], BY_1000[1], BY_1000[2], BY_1000[3]};
        for (int[] own : owns) {
            BirdThatDrinks x = lived(own);
            isFirst("least of pegs", 1, 99, 1000, own, Poised.PEG, n -> x.pegs(n, 0));
            BirdThatDrinks y = lived(own);
            isFirst("greatest of pegs", 99, 1, 1000, own, Poised.PEG, n -> y.pegs(n, 1));
        }
        for (int i = 0; i < BY_1000.length; i++) {
            int peg = BY_1000[i][1];
            DUE.isTrue("PEG of 1000", (lived(BY_1000[i]).pegs(1000, 1) >= peg) == (i < 2));
        }
        int[] hot = {2, 99, 3, 9, 10, 9, 7, 1};
        BirdThatDrinks x = lived(hot);
        int soonest = firstDot(fresh(hot, 1, 1));
        int next = firstDot(fresh(hot, 1, 98));
        int last = firstDot(fresh(hot, 1, 99));
        DUE.isTrue("PEG 99 is the last", last > next);
        DUE.is("98", x.pegs(next + 1, 1), 98);
        DUE.is("98 still", x.pegs(last, 1), 98);
        DUE.is("99", x.pegs(last + 1, 1), 99);
        DUE.is("1", x.pegs(last + 1, 0), 1);
        DUE.is("1 as soon as any", x.pegs(soonest + 1, 0), 1);
        DUE.is("none", x.pegs(soonest, 0), -9);
        DUE.is("none", x.pegs(soonest, 1), -9);
    }

    private static void widest() {
        DUE.sentence("WIDEST: of PEGS 10, 20, .. 90 that .., of several the least");
        for (int[] own : new int[][] {SOON, PLAIN, WARM, BY_1000[0], LATE[0]}) {
            BirdThatDrinks x = lived(own);
            for (int n : new int[] {1, 2, 6, 100, 999, 1000}) {
                // A lower PEG NODS wherever a higher one does.
                DUE.is("widest(" + n + ")", x.widest(n), 10);
            }
            DUE.is("widest(1001)", x.widest(1001), -6);
            DUE.is("widest(0)", x.widest(0), -4);
        }
    }

    private static void lifts() {
        DUE.sentence("LIFTS: of LIFT 0 .. 9 that with which NODS times LIFT .. is most, of several the least");
        int several = 0;
        TreeSet<Integer> answers = new TreeSet<>();
        for (int[] own : new int[][] {SOON, PLAIN, WARM, LATE[0], {1, 95, 2, 10, 3, 9, 10, 9}, {1, 99, 2, 10, 10, 3}}) {
            int[] lasts = new int[10];
            for (int lift = 0; lift <= 9; lift++) {
                lasts[lift] = firstDot(fresh(own, Poised.LIFT, lift));
            }
            for (int n : edges(3000, lasts)) {
                int best = -1;
                int most = -1;
                boolean alike = false;
                for (int lift = 0; lift <= 9; lift++) {
                    int work = lift * fresh(own, Poised.LIFT, lift).run(n);
                    alike = work == most && best >= 0 && most > 0 || alike && work < most;
                    best = work > most ? lift : best;
                    most = Math.max(most, work);
                }
                several += alike ? 1 : 0;
                answers.add(best);
                DUE.is("lifts(" + n + ") with " + Arrays.toString(own), lived(own).lifts(n), best);
            }
        }
        DUE.isTrue("0, 9 and some between: " + answers,
            answers.contains(0) && answers.contains(9) && answers.size() > 3);
        DUE.is("0 of all alike", lived(SOON).lifts(5), 0);
        DUE.is("2 of 0 .. 2 that NOD once: FULL 30 and not 40 of UP 36", lived(SOON).lifts(6), 2);
    }

    private static void under() {
        DUE.sentence("UNDER: NODS of a fresh BIRD under a BELL in 3000 TENTHS.");
        // The first two NOD in TENTH 2999, the others in TENTH 3000.
        int[][] owns = {
            {1, 4, 2, 91, 3, 2, 4, 7, 5, 2, 6, 1, 8, 86, 9, 9}, {1, 3, 2, 98, 3, 6, 4, 18, 5, 7, 6, 1, 8, 73, 9, 4},
            {1, 43, 2, 32, 3, 9, 4, 0, 5, 4, 6, 1, 8, 71, 9, 5}, {1, 6, 2, 49, 3, 7, 4, 12, 5, 0, 6, 1, 8, 15, 9, 8}};
        for (int i = 0; i < owns.length; i++) {
            BirdThatDrinks x = new BirdThatDrinks();
            tell(x, owns[i]);
            x.wet(500);
            x.set(Poised.BELL, 1);
            int ahead = x.run(2999);
            int all = x.run(1);
            int more = x.run(1);
            DUE.is("a NOD in TENTH 2999", all - ahead, i < 2 ? 1 : 0);
            DUE.is("a NOD in TENTH 3000", more - all, i < 2 ? 0 : 1);
            BirdThatDrinks y = lived(owns[i]);
            y.glass(500);
            DUE.is("under()", y.under(), all);
            y.set(Poised.BELL, 1);
            DUE.is("under() with BELL", y.under(), all);
        }
    }

    private static void underFresh() {
        DUE.sentence("a fresh BIRD (NOW as at first (DAMP 0)");
        // With one of DAMP more these would NOD otherwise.
        int[][] owns = {{9, 2, 1, 5, 4, 18, 3, 7, 8, 34}, {9, 2, 1, 9, 4, 27, 3, 5, 8, 46}};
        for (int[] own : owns) {
            BirdThatDrinks x = lived(own);
            DUE.isTrue("DAMP now", x.now(4) > 0);
            x.glass(500);
            BirdThatDrinks y = fresh(own, Poised.BELL, 1);
            y.glass(500);
            DUE.is("under()", x.under(), y.run(3000));
        }
    }

    private static void without() {
        DUE.sentence("WITHOUT: the least LAMP with which a fresh BIRD with WET 0 and GLASS 0 NODS in n TENTHS "
            + "(BLACK as it is); -9.");
        int[][] owns = {SOON, PLAIN, WARM, {1, 74, 2, 80, 3, 4, 4, 8, 5, 4, 6, 2, 8, 27, 9, 3},
            {1, 67, 2, 88, 3, 1, 4, 28, 5, 2, 6, 1, 8, 33, 9, 1}, {1, 98, 2, 90, 3, 3, 4, 33, 5, 5, 6, 3, 8, 98, 9, 9}};
        TreeSet<Integer> answers = new TreeSet<>();
        for (int[] own : owns) {
            for (int black = 0; black <= 1; black++) {
                BirdThatDrinks x = lived(own);
                x.set(Poised.BLACK, black);
                int[] first = new int[10];
                for (int lamp = 0; lamp <= 9; lamp++) {
                    BirdThatDrinks y = fresh(own, Poised.BLACK, black, Poised.LAMP, lamp);
                    y.wet(0);
                    y.glass(0);
                    first[lamp] = firstDot(y);
                }
                for (int n : edges(3000, first)) {
                    int want = -9;
                    for (int lamp = 9; lamp >= 0; lamp--) {
                        want = first[lamp] < n ? lamp : want;
                    }
                    answers.add(want);
                    DUE.is("without(" + n + "), BLACK " + black + " with " + Arrays.toString(own), x.without(n), want);
                }
            }
        }
        DUE.isTrue("from 1 to 9 and none: " + answers,
            answers.contains(1) && answers.contains(9) && answers.contains(-9) && answers.size() > 7);
    }

    private static void larger() {
        DUE.sentence("LARGER: NODS of a fresh BIRD of SIZE k in n TENTHS.");
        for (int[] own : new int[][] {SOON, PLAIN, WARM, LATE[0], LATE[1], LATE[2], LATE[3]}) {
            for (int k = 1; k <= 4; k++) {
                List<Integer> dots = dots(fresh(own, Poised.SIZE, k));
                BirdThatDrinks x = lived(own);
                for (int n : edges(3000, some(dots))) {
                    if (dots.size() < 60 || n <= dots.get(59)) {
                        DUE.is("larger(" + k + ", " + n + ")", x.larger(k, n), before(dots, n));
                    }
                }
            }
        }
        BirdThatDrinks x = lived(SOON);
        DUE.is("larger(0, 6)", x.larger(0, 6), -4);
        DUE.is("larger(5, 6)", x.larger(5, 6), -6);
    }

    private static void together() {
        DUE.sentence("TOGETHER: the first TENTH (of 3000) in which a fresh BIRD of SIZE 1 and one of SIZE k "
            + "both NOD; -9.");
        for (int i = 0; i < LATE.length; i++) {
            BirdThatDrinks x = lived(LATE[i]);
            x.set(Poised.SIZE, 1 + i);
            DUE.is("together(1), both first in TENTH " + (i < 2 ? 2999 : 3000), x.together(1), i < 2 ? 2999 : -9);
        }
        DUE.is("together(1) of the soonest", lived(SOON).together(1), 5);
        int same = 0;
        int near = 0;
        for (int peg = 1; peg <= 60; peg += 3) {
            for (int lamp = 0; lamp <= 9; lamp += 3) {
                int[] own = {1, peg, 2, 20, 3, 7, 8, 60, 9, 4, 10, lamp};
                BirdThatDrinks x = lived(own);
                List<Integer> one = dots(fresh(own, Poised.SIZE, 1));
                for (int k = 1; k <= 4; k++) {
                    List<Integer> other = dots(fresh(own, Poised.SIZE, k));
                    int want = firstOfBoth(one, other);
                    if (want >= 0 || one.size() < 60 && other.size() < 60) {
                        same += k > 1 && want >= 0 ? 1 : 0;
                        near += want == -9 || want > one.get(0) ? 1 : 0;
                        DUE.is("together(" + k + ") with " + Arrays.toString(own), x.together(k), want);
                    }
                }
            }
        }
        DUE.isTrue("some of unlike SIZES, " + same + ", and some not at once, " + near, same > 3 && near > 3);
    }

    private static int firstOfBoth(List<Integer> one, List<Integer> other) {
        for (int dot : one) {
            if (dot < 3000 && other.contains(dot)) {
                return dot;
            }
        }
        return -9;
    }

    private static void drinks() {
        DUE.sentence("DRINKS: what GLASS is less behind n TENTHS.");
        for (int glass : new int[] {0, 4, 5, 6, 9, 10, 11, 15, 9999}) {
            for (int reach : new int[] {0, 5, 10}) {
                Poised p = Poised.tipping(10).with(Poised.REACH, reach);
                p.x.glass(glass);
                int drunk = glass >= reach && glass >= 5 ? 5 : 0;
                DUE.is("drinks(4), GLASS " + glass + ", REACH " + reach, p.x.drinks(4), 0);
                DUE.is("drinks(5), GLASS " + glass + ", REACH " + reach, p.x.drinks(5), drunk);
                DUE.is("now(11)", p.x.now(11), glass);
            }
        }
        for (int[] own : new int[][] {SOON, PLAIN, WARM, LATE[0], LATE[2]}) {
            List<Integer> dots = dots(fresh(own));
            BirdThatDrinks x = fresh(own);
            for (int n : edges(3000, some(dots))) {
                if (dots.size() < 60 || n <= dots.get(59)) {
                    DUE.is("drinks(" + n + ")", x.drinks(n), 5 * before(dots, n));
                }
            }
        }
    }

    private static void goes() {
        DUE.sentence("GOES: of fresh BIRDS with PEG and STUFF each off by -by .. by, the part that NOD in n TENTHS");
        for (int[] own : new int[][] {BY_300[0], BY_300[1], BY_300[2], BY_300[3], {1, 30, 2, 40, 8, 70, 9, 3}}) {
            for (int by = 0; by <= 5; by++) {
                int[] first = new int[(2 * by + 1) * (2 * by + 1)];
                int many = 0;
                for (int peg = own[1] - by; peg <= own[1] + by; peg++) {
                    for (int stuff = own[3] - by; stuff <= own[3] + by; stuff++) {
                        first[many] = firstDot(fresh(own, 1, peg, 2, stuff));
                        many++;
                    }
                }
                int[] some = Arrays.copyOf(first, Math.min(12, many));
                some[0] = first[many / 2];
                for (int n : edges(300, some)) {
                    long nod = Arrays.stream(first).filter(d -> d < n).count();
                    isPart(lived(own), n, by, nod, many);
                }
            }
        }
        for (int i = 0; i < BY_300.length; i++) {
            BirdThatDrinks x = lived(BY_300[i]);
            DUE.is("goes(300, 0, 0)", x.goes(300, 0, 0), i < 2 ? 1 : 0);
            DUE.is("goes(300, 0, 1)", x.goes(300, 0, 1), 1);
            DUE.is("goes(299, 0, 0)", x.goes(299, 0, 0), 0);
            DUE.is("goes(301, 0, 0)", x.goes(301, 0, 0), -6);
            DUE.is("goes(300, 6, 0)", x.goes(300, 6, 0), -6);
            DUE.is("goes(300, -1, 0)", x.goes(300, -1, 0), -4);
            DUE.is("goes(0, 0, 0)", x.goes(0, 0, 0), -4);
        }
    }

    private static void isPart(BirdThatDrinks x, int n, int by, long above, long below) {
        long a = above;
        long b = below;
        for (long d = below; d > 1; d--) {
            if (a % d == 0 && b % d == 0) {
                a /= d;
                b /= d;
            }
        }
        String told = "goes(" + n + ", " + by + ", ";
        DUE.is(told + "0) of " + above + " by " + below, x.goes(n, by, 0), a);
        DUE.is(told + "1) of " + above + " by " + below, x.goes(n, by, 1), b);
    }

    private static void goesOutOfRange() {
        DUE.sentence("(those out of range do not");
        // All that are in range NOD.
        for (int peg : new int[] {1, 2, 5, 6, 50, 94, 95, 98, 99}) {
            for (int stuff : new int[] {10, 11, 14, 15, 50, 94, 95, 98, 99}) {
                BirdThatDrinks x = lived(1, peg, 2, stuff, 3, 9, 8, 99, 9, 9, 10, 9, 7, 1);
                for (int by = 0; by <= 5; by++) {
                    int pegs = Math.min(99, peg + by) - Math.max(1, peg - by) + 1;
                    int stuffs = Math.min(99, stuff + by) - Math.max(10, stuff - by) + 1;
                    isPart(x, 300, by, (long) pegs * stuffs, (2 * by + 1) * (2 * by + 1));
                }
            }
        }
    }

    private static void goesLeastTerms() {
        DUE.sentence("in least terms ..; 0 by 1 if none does");
        BirdThatDrinks x = lived(1, 1, 2, 10, 3, 9, 8, 99, 9, 9);
        int[] above = {1, 4, 9, 16, 25, 36};
        int[] below = {1, 9, 25, 49, 81, 121};
        for (int by = 0; by <= 5; by++) {
            DUE.is("none, above, by " + by, x.goes(5, by, 0), 0);
            DUE.is("none, below, by " + by, x.goes(5, by, 1), 1);
            DUE.is("in range, above, by " + by, x.goes(300, by, 0), above[by]);
            DUE.is("in range, below, by " + by, x.goes(300, by, 1), below[by]);
        }
        BirdThatDrinks y = lived(1, 1, 2, 50, 3, 9, 8, 99, 9, 9);
        DUE.is("6 of 9, above", y.goes(300, 1, 0), 2);
        DUE.is("6 of 9, below", y.goes(300, 1, 1), 3);
        DUE.is("66 of 121, above", y.goes(300, 5, 0), 6);
        DUE.is("66 of 121, below", y.goes(300, 5, 1), 11);
        BirdThatDrinks z = lived(1, 50, 2, 50, 3, 9, 8, 99, 9, 9);
        DUE.is("all, above", z.goes(300, 5, 0), 1);
        DUE.is("all, below", z.goes(300, 5, 1), 1);
    }

    private static void bestRoom() {
        DUE.sentence("BEST ROOM: of ROOMS 100, 150, .. 400 that in which a fresh BIRD has most NODS in n "
            + "TENTHS, of several the least.");
        for (int[] own : new int[][] {SOON, PLAIN, WARM, LATE[0]}) {
            for (int room : new int[] {100, 101, 200, 400}) {
                BirdThatDrinks x = lived(own);
                x.set(Poised.ROOM, room);
                for (int n : new int[] {1, 5, 6, 300, 3000}) {
                    // HEAD and TAIL are ROOM at first, and all ROOMS are alike.
                    DUE.is("bestRoom(" + n + ")", x.bestRoom(n), 100);
                }
                DUE.is("bestRoom(0)", x.bestRoom(0), -4);
                DUE.is("bestRoom(3001)", x.bestRoom(3001), -6);
            }
        }
    }

    private static void latest() {
        DUE.sentence("LATEST: of SIZES 1 .. 4 that of which a fresh BIRD in n TENTHS has its latest NOD latest, "
            + "of several the least; -9 none NODS.");
        TreeSet<Integer> answers = new TreeSet<>();
        int[] mild = {1, 90, 2, 60, 10, 2, 3, 4, 8, 20};
        for (int[] own : new int[][] {PLAIN, mild, LATE[0], LATE[1], LATE[2], LATE[3], BY_300[0], BY_1000[0]}) {
            List<List<Integer>> all = new ArrayList<>();
            TreeSet<Integer> ends = new TreeSet<>(edges(3000));
            boolean isSeen = true;
            for (int k = 1; k <= 4; k++) {
                List<Integer> dots = dots(fresh(own, Poised.SIZE, k));
                isSeen &= dots.size() < 60;
                all.add(dots);
                ends.addAll(edges(3000, some(dots)));
            }
            DUE.isTrue("the drum shows all", isSeen);
            BirdThatDrinks x = lived(own);
            for (int n : ends) {
                int want = latestOf(all, n);
                answers.add(want);
                DUE.is("latest(" + n + ") with " + Arrays.toString(own), x.latest(n), want);
            }
        }
        DUE.isTrue("none and several: " + answers, answers.contains(-9) && answers.contains(1) && answers.size() > 3);
        // Each of SIZES 1 to 4 NODS in TENTH 5 alike.
        DUE.is("of several the least", lived(SOON).latest(6), 1);
        DUE.is("none NODS", lived(SOON).latest(5), -9);
    }

    private static int latestOf(List<List<Integer>> dots, int n) {
        int best = -9;
        int latest = -1;
        for (int k = 1; k <= 4; k++) {
            int many = before(dots.get(k - 1), n);
            int dot = many > 0 ? dots.get(k - 1).get(many - 1) : -1;
            best = dot > latest ? k : best;
            latest = Math.max(dot, latest);
        }
        return best;
    }
}
