import java.util.ArrayList;
import java.util.Arrays;
import java.util.List;

/** The DRUM and the ROW in "Terms", and promises 25 to 34, on drums whose DOTS are told one by one. */
public final class EdgesOfDrumTest {
    private static final Due DUE = new Due("EdgesOfDrumTest");
    private static final int[] PLAIN = {9, 3, 1, 10};

    public static void main(String[] args) {
        dot();
        even();
        evenAcross();
        longer();
        slow();
        slowCut();
        hour();
        rowRoom();
        rowRange();
        judgedWithin();
        judgedEnds();
        judgedEmpties();
        driest();
        driestWithin();
        driestFirstGaps();
        driestTenths();
        sorts();
        sortsThree();
        sortsTenths();
        sortsJust();
        odds();
        DUE.end();
    }

    /** A drum with just these GAPS, the first DOT in TENTH 50. */
    private static BirdThatDrinks drum(int... gaps) {
        int[] dots = new int[gaps.length + 1];
        dots[0] = 50;
        for (int i = 0; i < gaps.length; i++) {
            dots[i + 1] = dots[i] + gaps[i];
        }
        BirdThatDrinks x = Poised.dots(dots);
        for (int i = 0; i < dots.length; i++) {
            if (x.dot(i) != dots[i]) {
                DUE.is("a DOT of the test's drum", x.dot(i), dots[i]);
            }
        }
        return x;
    }

    private static void dot() {
        DUE.sentence("DOT i; -9 not so many. -4.");
        for (int many : new int[] {0, 1, 2, 59, 60}) {
            int[] dots = new int[many];
            for (int i = 0; i < many; i++) {
                dots[i] = 10 + 8 * i;
            }
            BirdThatDrinks x = Poised.dots(dots);
            DUE.is("count(0)", x.count(0), many);
            DUE.is("dot(-1)", x.dot(-1), -4);
            DUE.is("dot(0)", x.dot(0), many > 0 ? 10 : -9);
            DUE.is("the last", x.dot(Math.max(0, many - 1)), many > 0 ? 10 + 8 * (many - 1) : -9);
            DUE.is("one behind the last", x.dot(many), -9);
            DUE.is("dot(60)", x.dot(60), -9);
            DUE.is("dot(greatest)", x.dot(Integer.MAX_VALUE), -9);
        }
    }

    private static void even() {
        DUE.sentence("EVEN: the first GAP (1 ..) that is unlike the one ahead by more than told; -9.");
        for (int unlike = 0; unlike <= 3; unlike++) {
            BirdThatDrinks longer = drum(20, 20, 20 + unlike);
            BirdThatDrinks shorter = drum(20, 20, 20 - unlike);
            for (int more = 0; more <= 4; more++) {
                DUE.is("even(" + more + ") of 20, 20 and " + unlike + " more", longer.even(more),
                    unlike > more ? 2 : -9);
                DUE.is("even(" + more + ") of 20, 20 and " + unlike + " less", shorter.even(more),
                    unlike > more ? 2 : -9);
            }
        }
        DUE.is("no DOT", new BirdThatDrinks().even(0), -9);
        DUE.is("no GAP", drum().even(0), -9);
        DUE.is("one GAP", drum(9).even(0), -9);
        DUE.is("two GAPS", drum(9, 8).even(0), 1);
        BirdThatDrinks x = drum(10, 12, 15, 10);
        int[] want = {1, 1, 2, 3, 3, -9, -9};
        for (int more = 0; more < want.length; more++) {
            DUE.is("even(" + more + ") of 10, 12, 15, 10", x.even(more), want[more]);
        }
        DUE.is("even(-1)", x.even(-1), -4);
        DUE.is("even(greatest)", x.even(Integer.MAX_VALUE), -9);
    }

    private static void evenAcross() {
        DUE.sentence("the first GAP that is unlike the one ahead (of 59 GAPS, the last)");
        int[] gaps = new int[59];
        for (int i = 0; i < 59; i++) {
            gaps[i] = i == 58 ? 9 : 8;
        }
        BirdThatDrinks x = drum(gaps);
        DUE.is("even(0)", x.even(0), 58);
        DUE.is("even(1)", x.even(1), -9);
        DUE.is("longer(0)", x.longer(0), 1);
        DUE.is("slow(10)", x.slow(10), 58);
        x.run(60);
        DUE.is("even(0), NODS later", x.even(0), 58);
    }

    private static void longer() {
        DUE.sentence("LONGER: how many GAPS are longer than the one ahead, shorter.");
        for (int second = 19; second <= 21; second++) {
            BirdThatDrinks x = drum(20, second);
            DUE.is("longer(0) of 20, " + second, x.longer(0), second > 20 ? 1 : 0);
            DUE.is("longer(1) of 20, " + second, x.longer(1), second < 20 ? 1 : 0);
        }
        BirdThatDrinks x = drum(10, 10, 11, 12, 12, 9, 13, 13);
        DUE.is("longer(0)", x.longer(0), 3);
        DUE.is("longer(1)", x.longer(1), 1);
        DUE.is("one GAP", drum(10).longer(0) + drum(10).longer(1), 0);
        DUE.is("longer(-1)", x.longer(-1), -2);
        DUE.is("longer(2)", x.longer(2), -2);
    }

    private static void slow() {
        DUE.sentence("SLOW: the first GAP (1 ..) that is more than (told times the first one by 10");
        for (int second = 29; second <= 31; second++) {
            BirdThatDrinks x = drum(20, second);
            DUE.is("slow(15) of 20, " + second, x.slow(15), second > 30 ? 1 : -9);
            DUE.is("slow(10) of 20, " + second, x.slow(10), 1);
            DUE.is("slow(14) of 20, " + second, x.slow(14), second > 28 ? 1 : -9);
        }
        BirdThatDrinks y = drum(20, 20, 19, 21);
        DUE.is("slow(10) of 20, 20, 19, 21", y.slow(10), 3);
        DUE.is("slow(9) of 20, 20, 19, 21", y.slow(9), 1);
        DUE.is("slow(11) of 20, 20, 19, 21", y.slow(11), -9);
        DUE.is("slow(0) of 20, 20, 19, 21", y.slow(0), 1);
        DUE.is("slow(-1)", y.slow(-1), -4);
        DUE.is("slow(999)", y.slow(999), -9);
        DUE.is("slow(1000)", y.slow(1000), -6);
        DUE.is("no GAP", drum().slow(0), -9);
        DUE.is("one GAP: the first itself is not asked", drum(20).slow(0), -9);
        DUE.is("no DOT", new BirdThatDrinks().slow(0), -9);
        for (int gap = 698; gap <= 701; gap++) {
            DUE.is("slow(999) of 7, " + gap, drum(7, gap).slow(999), gap > 699 ? 1 : -9);
        }
    }

    private static void slowCut() {
        DUE.sentence("by 10, cut)");
        int[] firsts = {15, 15, 15, 19, 11};
        int[] times = {7, 10, 13, 21, 19};
        int[] bounds = {10, 15, 19, 39, 20};
        for (int i = 0; i < firsts.length; i++) {
            for (int off = -1; off <= 1; off++) {
                DUE.is("slow(" + times[i] + ") of " + firsts[i] + ", " + (bounds[i] + off),
                    drum(firsts[i], bounds[i] + off).slow(times[i]), off > 0 ? 1 : -9);
            }
        }
    }

    private static void hour() {
        DUE.sentence("HOUR i: how many DOTS are from 100 i on and ahead of 100 (i and 1).");
        for (int edge : new int[] {100, 200, 1000, 3000, 10000}) {
            for (int dot = edge - 1; dot <= edge + 1; dot++) {
                BirdThatDrinks x = Poised.dots(dot);
                DUE.is("DOT", x.dot(0), dot);
                int hour = edge / 100;
                DUE.is("HOUR ahead of " + dot, x.hour(hour - 1), dot < edge ? 1 : 0);
                DUE.is("HOUR from " + dot, x.hour(hour), dot < edge ? 0 : 1);
                DUE.is("HOUR behind " + dot, x.hour(hour + 1), 0);
            }
        }
        BirdThatDrinks x = Poised.dots(9, 50, 92, 99, 107, 199, 206, 299, 307);
        int[] want = {4, 2, 2, 1, 0, 0};
        for (int i = 0; i < want.length; i++) {
            DUE.is("hour(" + i + ")", x.hour(i), want[i]);
        }
        DUE.is("hour(-1)", x.hour(-1), -4);
        DUE.is("hour(greatest)", x.hour(Integer.MAX_VALUE), 0);
        for (int i : new int[] {21474836, 21474837, 42949672, 42949673, 85899346}) {
            DUE.is("hour(" + i + ")", x.hour(i), 0);
        }
    }

    private static void rowRoom() {
        DUE.sentence("A ROW of GAPS (.. 10 at most): A told GAP more of the ROW: how many.");
        BirdThatDrinks x = new BirdThatDrinks();
        for (int i = 1; i <= 12; i++) {
            DUE.is("gap " + i, x.gap(i), i <= 10 ? i : -6);
            DUE.is("count(2)", x.count(2), Math.min(10, i));
        }
        DUE.is("gap(-1), no room", x.gap(-1), -4);
        DUE.is("gap(10000), no room", x.gap(10000), -6);
        x.judge(0);
        DUE.is("room again", x.gap(1), 1);
    }

    private static void rowRange() {
        DUE.sentence("GAPS (0 .. 9999");
        int[] told = {-1, 0, 1, 9998, 9999, 10000};
        for (int v : told) {
            BirdThatDrinks x = drum(9);
            DUE.is("gap(" + v + ")", x.gap(v), v < 0 ? -4 : v > 9999 ? -6 : 1);
            boolean isIn = v >= 0 && v <= 9999;
            DUE.is("count(2)", x.count(2), isIn ? 1 : 0);
            DUE.is("judge(9989)", x.judge(9989), isIn && v <= 9998 ? -9 : 0);
            x.gap(isIn ? v : 0);
            DUE.is("judge(9990)", x.judge(9990), -9);
        }
    }

    private static int judged(BirdThatDrinks x, int slip, int... row) {
        for (int gap : row) {
            x.gap(gap);
        }
        return x.judge(slip);
    }

    private static void judgedWithin() {
        DUE.sentence("JUDGED against the DRUM: the first that is not within SLIP; -9");
        BirdThatDrinks x = drum(20, 30, 40);
        for (int slip = 0; slip <= 3; slip++) {
            for (int off = -4; off <= 4; off++) {
                int want = Math.abs(off) > slip ? 1 : -9;
                DUE.is("20, 30 and " + off + ", 40 within " + slip, judged(x, slip, 20, 30 + off, 40), want);
                want = Math.abs(off) > slip ? 0 : -9;
                DUE.is("20 and " + off + ", 30, 40 within " + slip, judged(x, slip, 20 + off, 30, 40), want);
                want = Math.abs(off) > slip ? 2 : -9;
                DUE.is("20, 30, 40 and " + off + " within " + slip, judged(x, slip, 20, 30, 40 + off), want);
            }
        }
        DUE.is("of two the first", judged(drum(20, 30, 40), 0, 20, 31, 41), 1);
        DUE.is("judge(-1)", x.judge(-1), -4);
        DUE.is("judge(10000)", x.judge(10000), -6);
        DUE.is("judge(9999)", judged(x, 9999, 9999, 0, 0), -9);
    }

    private static void judgedEnds() {
        DUE.sentence("where it ends, if too short; how many GAPS there are, if too long");
        int[] gaps = {20, 30, 40, 50, 60, 70, 80, 90, 100, 110, 120, 130};
        for (int many = 0; many <= 12; many++) {
            BirdThatDrinks x = drum(Arrays.copyOf(gaps, many));
            for (int told = 0; told <= 10; told++) {
                int want = told == many ? -9 : Math.min(told, many);
                DUE.is(told + " of " + many, judged(x, 0, Arrays.copyOf(gaps, told)), want);
            }
        }
        BirdThatDrinks none = new BirdThatDrinks();
        DUE.is("no DOT, none told", judged(none, 0), -9);
        DUE.is("no DOT, one told", judged(none, 9999, 0), 0);
        BirdThatDrinks x = drum(20, 30);
        DUE.is("too long, and one not within ahead", judged(x, 0, 20, 31, 40), 1);
        DUE.is("too long, and one not within behind", judged(x, 9999, 20, 30, 0), 2);
        DUE.is("too short, and one not within ahead", judged(x, 0, 21), 0);
        DUE.is("too short", judged(x, 1, 21), 1);
    }

    private static void judgedEmpties() {
        DUE.sentence("(whichever it answers, the ROW has none then). -4; -6 9999 (it stays).");
        int[][] rows = {{20, 30}, {20}, {20, 30, 40}, {21, 30}, {}};
        int[] answers = {-9, 1, 2, 0, 0};
        for (int i = 0; i < rows.length; i++) {
            BirdThatDrinks x = drum(20, 30);
            for (int gap : rows[i]) {
                x.gap(gap);
            }
            DUE.is("judge(-1)", x.judge(-1), -4);
            DUE.is("it stays", x.count(2), rows[i].length);
            DUE.is("judge(10000)", x.judge(10000), -6);
            DUE.is("it stays", x.count(2), rows[i].length);
            DUE.is("judge(0)", x.judge(0), answers[i]);
            DUE.is("none then", x.count(2), 0);
            DUE.is("too short", x.judge(0), 0);
        }
    }

    private static BirdThatDrinks with(int... pairs) {
        BirdThatDrinks x = new BirdThatDrinks();
        for (int i = 0; i + 1 < pairs.length; i += 2) {
            x.set(pairs[i], pairs[i + 1]);
        }
        return x;
    }

    /** The GAPS in 3000 TENTHS of a real fresh BIRD; of the first 60 DOTS. */
    private static List<Integer> gapsOf(int[] own, int dry) {
        BirdThatDrinks x = with(own);
        x.set(Poised.DRY, dry);
        x.wet(500);
        x.run(3000);
        List<Integer> gaps = new ArrayList<>();
        for (int i = 1; i < x.count(0); i++) {
            gaps.add(x.dot(i) - x.dot(i - 1));
        }
        return gaps;
    }

    private static void isDriest(int[] own, int slip, int... row) {
        int least = -9;
        int greatest = -9;
        int many = 0;
        for (int dry = 0; dry < 100; dry += 5) {
            List<Integer> gaps = gapsOf(own, dry);
            boolean fits = gaps.size() >= row.length;
            for (int i = 0; i < row.length && fits; i++) {
                fits = Math.abs(gaps.get(i) - row[i]) <= slip;
            }
            least = fits && many == 0 ? dry : least;
            greatest = fits ? dry : greatest;
            many += fits ? 1 : 0;
        }
        BirdThatDrinks x = with(own);
        for (int gap : row) {
            x.gap(gap);
        }
        String told = " within " + slip + " of " + Arrays.toString(row);
        DUE.is("driest, the least" + told, x.driest(slip, 0), least);
        DUE.is("driest, the greatest" + told, x.driest(slip, 1), greatest);
        DUE.is("driest, how many" + told, x.driest(slip, 2), many);
        DUE.is("it stays", x.count(2), row.length);
    }

    private static void driest() {
        DUE.sentence("DRIEST: of DRYS 0, 5, .. 95 ..: the least, the greatest, how many.");
        int[] warm = {10, 9, 1, 10, 2, 20, 3, 6};
        BirdThatDrinks x = with(warm);
        x.gap(100);
        DUE.is("all: the least", x.driest(9999, 0), 0);
        DUE.is("all: the greatest", x.driest(9999, 1), 95);
        DUE.is("all: how many", x.driest(9999, 2), 20);
        BirdThatDrinks y = with(PLAIN);
        DUE.is("the ROW has none", y.driest(9999, 2), -3);
        y.gap(9999);
        DUE.is("none: the least", y.driest(0, 0), -9);
        DUE.is("none: the greatest", y.driest(0, 1), -9);
        DUE.is("none: how many", y.driest(0, 2), 0);
        DUE.is("driest(-1, 0)", y.driest(-1, 0), -4);
        DUE.is("driest(10000, 0)", y.driest(10000, 0), -6);
        DUE.is("driest(0, -1)", y.driest(0, -1), -2);
        DUE.is("driest(0, 3)", y.driest(0, 3), -2);
        y.set(Poised.DRY, 52);
        DUE.is("DRY now is nothing to it", y.driest(9999, 2), thatHaveGaps(PLAIN));
    }

    private static int thatHaveGaps(int[] own) {
        int many = 0;
        for (int dry = 0; dry < 100; dry += 5) {
            many += gapsOf(own, dry).isEmpty() ? 0 : 1;
        }
        return many;
    }

    private static void driestWithin() {
        DUE.sentence("are each within SLIP of told ones");
        for (int dry : new int[] {20, 50, 95}) {
            int first = gapsOf(PLAIN, dry).get(0);
            int second = gapsOf(PLAIN, dry).get(1);
            for (int slip = 0; slip <= 3; slip++) {
                for (int off = -4; off <= 4; off++) {
                    isDriest(PLAIN, slip, first + off, second);
                    isDriest(PLAIN, slip, first, second + off);
                }
            }
        }
        // One DRY alone, told off by just SLIP and by one more.
        int[] own = {9, 9, 1, 60, 2, 30};
        List<Integer> gaps = gapsOf(own, 95);
        DUE.isTrue("GAPS", gaps.size() > 2);
        isDriest(own, 0, gaps.get(0));
        isDriest(own, 7, gaps.get(0) - 7);
        isDriest(own, 7, gaps.get(0) - 8);
        isDriest(own, 7, gaps.get(0) + 7);
        isDriest(own, 7, gaps.get(0) + 8);
    }

    private static void driestFirstGaps() {
        DUE.sentence("by which the first k GAPS of a fresh BIRD");
        List<Integer> gaps = gapsOf(PLAIN, 60);
        DUE.isTrue("more than ten", gaps.size() > 10);
        for (int k = 1; k <= 10; k++) {
            int[] row = new int[k];
            for (int i = 0; i < k; i++) {
                row[i] = gaps.get(i);
            }
            isDriest(PLAIN, 0, row);
            row[k - 1]++;
            isDriest(PLAIN, 0, row);
        }
        // Some DRYS have just so many GAPS: one told more than there are is not of them.
        int[] slow = {1, 80, 9, 1, 10, 1};
        int fewer = 0;
        for (int k = 1; k <= 10; k++) {
            int[] row = new int[k];
            isDriest(slow, 9999, row);
            for (int dry = 0; dry < 100; dry += 5) {
                fewer += gapsOf(slow, dry).size() == k - 1 ? 1 : 0;
            }
        }
        DUE.isTrue("DRYS with one GAP too few", fewer > 0);
    }

    private static void driestTenths() {
        DUE.sentence("of a fresh BIRD in 3000 TENTHS");
        // Of DRY 35 the second DOT is in TENTH 3000, one behind the last; see DrumTest.
        int[] own = {9, 2, 1, 54, 4, 14, 3, 3};
        isDriest(own, 9999, 0);
        int[] ends = endsOf(own);
        DUE.is("a second DOT in TENTH 3000", ends[1] > 0 ? 1 : 0, 1);
        // And one with the second DOT in TENTH 2999.
        int found = 0;
        for (int crack = 0; crack <= 30 && found < 2; crack++) {
            for (int peg = 20; peg <= 99 && found < 2; peg++) {
                int[] other = {9, 2, 1, peg, 4, crack, 3, 3};
                if (endsOf(other)[0] > 0) {
                    found++;
                    isDriest(other, 9999, 0);
                }
            }
        }
        DUE.is("second DOTS in TENTH 2999", found, 2);
    }

    /** How many DRYS have their second DOT in TENTH 2999, and in TENTH 3000. */
    private static int[] endsOf(int[] own) {
        int[] many = new int[2];
        for (int dry = 0; dry < 100; dry += 5) {
            BirdThatDrinks x = with(own);
            x.set(Poised.DRY, dry);
            x.wet(500);
            x.run(3000);
            x.run(1);
            many[0] += x.dot(1) == 2999 ? 1 : 0;
            many[1] += x.dot(1) == 3000 ? 1 : 0;
        }
        return many;
    }

    private static int nodsOf(int[] own, int sort, int dry, int n) {
        BirdThatDrinks x = with(own);
        x.set(Poised.SORT, sort);
        x.set(Poised.DRY, dry);
        x.wet(500);
        return x.run(n);
    }

    private static int[] nodsOfAll(int[] own, int sort, int[] dries) {
        return Arrays.stream(dries).map(dry -> nodsOf(own, sort, dry, 1000)).toArray();
    }

    private static int bitsOf(int[] own, int[] dries, int[] nods) {
        int bits = 0;
        for (int sort = 1; sort <= 9; sort++) {
            boolean gives = true;
            for (int i = 0; i < 3; i++) {
                gives = gives && nodsOf(own, sort, dries[i], 1000) == nods[i];
            }
            bits += gives ? 1 << sort : 0;
        }
        return bits;
    }

    private static int told(int... three) {
        return 10000 * three[0] + 100 * three[1] + three[2];
    }

    private static void sorts() {
        DUE.sentence("SORTS: of SORTS 1 .. 9 those (bits)");
        int[] own = {9, 4, 1, 80};
        DUE.is("all of 1 .. 9", with(own).sorts(0, 0), 1022);
        DUE.is("none", with(own).sorts(0, 1), 0);
        int seen = 0;
        for (int sort = 1; sort <= 9; sort++) {
            int[] dries = {20, 50, 80};
            int[] nods = nodsOfAll(own, sort, dries);
            int bits = bitsOf(own, dries, nods);
            DUE.isTrue("SORT " + sort + " is one", (bits & 1 << sort) != 0);
            BirdThatDrinks x = with(own);
            x.set(Poised.SORT, 10 - sort);
            DUE.is("sorts of SORT " + sort, x.sorts(told(dries), told(nods)), bits);
            seen |= bits == 1 << sort ? 1 << sort : 0;
        }
        DUE.isTrue("1 and 9 by themselves", (seen & 2) != 0 && (seen & 512) != 0);
    }

    private static void sortsThree() {
        DUE.sentence("three DRYS and three NODS, each told as 10000 a, 100 b and c (0 .. 99 each)");
        int[] own = {9, 4, 1, 20, 10, 1};
        int[][] all = {{0, 0, 0}, {99, 99, 99}, {0, 0, 99}, {0, 99, 0}, {99, 0, 0}, {1, 2, 3}, {99, 50, 0}};
        for (int[] dries : all) {
            int[] nods = nodsOfAll(own, 5, dries);
            BirdThatDrinks x = with(own);
            DUE.is("sorts of " + told(dries), x.sorts(told(dries), told(nods)), bitsOf(own, dries, nods));
            DUE.isTrue("SORT 5 is one", (x.sorts(told(dries), told(nods)) & 32) != 0);
            for (int i = 0; i < 3; i++) {
                for (int off = -1; off <= 1; off += 2) {
                    int[] other = nods.clone();
                    other[i] += off;
                    if (other[i] >= 0) {
                        DUE.is("one NOD off", x.sorts(told(dries), told(other)), bitsOf(own, dries, other));
                        DUE.isTrue("SORT 5 is none", (x.sorts(told(dries), told(other)) & 32) == 0);
                    }
                }
            }
        }
        // Without LAMP DRY 0 gives no NODS: two of three are 0.
        int[] cold = {9, 4, 1, 20};
        for (int place = 0; place < 3; place++) {
            int[] dries = new int[3];
            int[] nods = new int[3];
            dries[place] = 60;
            nods[place] = nodsOf(cold, 5, 60, 1000);
            DUE.isTrue("NODS", nods[place] > 0);
            DUE.is("DRYS " + told(dries) + ", NODS " + told(nods), with(cold).sorts(told(dries), told(nods)),
                bitsOf(cold, dries, nods));
            DUE.isTrue("SORT 5 is one", (with(cold).sorts(told(dries), told(nods)) & 32) != 0);
        }
        BirdThatDrinks x = with(own);
        DUE.is("sorts(999999, 999999)", x.sorts(999999, 999999), 0);
        DUE.is("sorts(1000000, 0)", x.sorts(1000000, 0), -6);
        DUE.is("sorts(0, 1000000)", x.sorts(0, 1000000), -6);
        DUE.is("sorts(-1, 0)", x.sorts(-1, 0), -4);
        DUE.is("sorts(0, -1)", x.sorts(0, -1), -4);
    }

    private static void sortsTenths() {
        DUE.sentence("in 1000 TENTHS, fresh");
        // By settings, SORT and DRY: a NOD in TENTH 999 twice, in TENTH 1000 twice.
        int[][] owns = {{1, 29, 2, 91, 4, 4, 5, 6, 9, 8}, {1, 18, 2, 79, 4, 7, 5, 5, 9, 4},
            {1, 38, 2, 87, 4, 6, 5, 2, 9, 3}, {1, 30, 2, 54, 4, 14, 5, 7, 9, 0}};
        int[] sorts = {5, 8, 9, 5};
        int[] dries = {23, 12, 95, 72};
        for (int i = 0; i < owns.length; i++) {
            int all = nodsOf(owns[i], sorts[i], dries[i], 1000);
            DUE.is("a NOD in TENTH 999", all - nodsOf(owns[i], sorts[i], dries[i], 999), i < 2 ? 1 : 0);
            DUE.is("a NOD in TENTH 1000", nodsOf(owns[i], sorts[i], dries[i], 1001) - all, i < 2 ? 0 : 1);
            for (int off = -1; off <= 1; off++) {
                BirdThatDrinks x = with(owns[i]);
                x.run(500);
                int three = told(dries[i], dries[i], dries[i]);
                int nods = told(all + off, all + off, all + off);
                DUE.is("SORT " + sorts[i] + " of NODS " + (all + off), x.sorts(three, nods) >> sorts[i] & 1,
                    off == 0 ? 1 : 0);
            }
        }
    }

    private static void sortsJust() {
        DUE.sentence("give just told NODS");
        // With these settings 1000 TENTHS have more than 99 NODS, which no told number of two digits is.
        int[] many = {1, 1, 2, 10, 10, 1};
        for (int sort = 1; sort <= 9; sort++) {
            int nods = nodsOf(many, sort, 0, 1000);
            DUE.isTrue("more than 99 NODS: " + nods, nods > 99 && nods < 200);
            BirdThatDrinks x = with(many);
            int less = nods - 100;
            DUE.is("NODS less 100", x.sorts(0, told(less, less, less)), 0);
            DUE.is("99 NODS", x.sorts(0, 999999), 0);
            DUE.is("NODS less 100, odds", x.odds(sort, 0, told(less, less, less), 0), 0);
        }
        // And with these just 99 of SORTS 5 and 9.
        int[] most = {1, 8, 2, 10, 10, 1, 9, 0};
        int bits = bitsOf(most, new int[] {0, 0, 0}, new int[] {99, 99, 99});
        DUE.is("SORTS 5 and 9 have 99", bits & 544, 544);
        DUE.is("sorts(0, 999999)", with(most).sorts(0, 999999), bits);
        DUE.is("sorts(0, 999998)", with(most).sorts(0, 999998) & 544, 0);
    }

    private static void odds() {
        DUE.sentence("ODDS of a SORT: 1 by how many, if it is one (0 by 1 else).");
        int[] own = {9, 4, 1, 80};
        int[][] all = {{20, 50, 80}, {0, 0, 0}, {10, 10, 12}};
        for (int[] dries : all) {
            for (int of = 1; of <= 9; of++) {
                int[] nods = nodsOfAll(own, of, dries);
                int bits = bitsOf(own, dries, nods);
                int many = Integer.bitCount(bits);
                BirdThatDrinks x = with(own);
                for (int sort = 0; sort <= 10; sort++) {
                    boolean isOne = (bits & 1 << sort) != 0;
                    int above = sort < 1 || sort > 9 ? -1 : isOne ? 1 : 0;
                    int below = sort < 1 || sort > 9 ? -1 : isOne ? many : 1;
                    DUE.is("odds(" + sort + "), above, of " + bits, x.odds(sort, told(dries), told(nods), 0), above);
                    DUE.is("odds(" + sort + "), below, of " + bits, x.odds(sort, told(dries), told(nods), 1), below);
                }
                DUE.is("part -1", x.odds(of, told(dries), told(nods), -1), -2);
                DUE.is("part 2", x.odds(of, told(dries), told(nods), 2), -2);
            }
        }
        DUE.is("none is one, above", with(own).odds(5, 0, 1, 0), 0);
        DUE.is("none is one, below", with(own).odds(5, 0, 1, 1), 1);
        DUE.is("all nine, above", with(own).odds(9, 0, 0, 0), 1);
        DUE.is("all nine, below", with(own).odds(1, 0, 0, 1), 9);
    }
}
