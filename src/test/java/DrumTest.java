import java.util.ArrayList;
import java.util.List;

/** Promises 25 to 34: the drum, told gaps, and which stuff it is. */
public final class DrumTest {
    private static final Due DUE = new Due("DrumTest");

    public static void main(String[] args) {
        promise25();
        promises26To28();
        promise29();
        noDots();
        promise30();
        promise31();
        promise32();
        promise33();
        promise34();
        DUE.end();
    }

    /** A bird whose GAPS are of many lengths: his WIND is told anew as he goes. */
    private static BirdThatDrinks uneven() {
        BirdThatDrinks x = new BirdThatDrinks();
        x.set(1, 20);
        x.wet(1000);
        int[] winds = {9, 5, 1, 5, 0, 0, 3, 1, 9, 2, 2, 7, 9};
        for (int wind : winds) {
            x.set(9, wind);
            x.run(100);
            x.wet(1000);
        }
        return x;
    }

    private static List<Integer> dots(BirdThatDrinks x) {
        List<Integer> dots = new ArrayList<>();
        for (int i = 0; i < x.count(0); i++) {
            dots.add(x.dot(i));
        }
        return dots;
    }

    private static List<Integer> gaps(BirdThatDrinks x) {
        List<Integer> dots = dots(x);
        List<Integer> gaps = new ArrayList<>();
        for (int i = 0; i + 1 < dots.size(); i++) {
            gaps.add(dots.get(i + 1) - dots.get(i));
        }
        return gaps;
    }

    private static void promise25() {
        BirdThatDrinks x = uneven();
        int many = x.count(0);
        DUE.isTrue("there are some DOTS", many > 5 && many < 60);
        DUE.isTrue("they rise", x.dot(0) >= 0 && x.dot(1) > x.dot(0));
        DUE.isTrue("the last is there", x.dot(many - 1) > 0);
        DUE.inMind(x, "dot(not so many)", () -> x.dot(many), -9);
        DUE.inMind(x, "dot(greatest)", () -> x.dot(Integer.MAX_VALUE), -9);
        DUE.refuses(x, -4, "dot(-1)", () -> x.dot(-1));
        DUE.refuses(x, -4, "dot(least)", () -> x.dot(Integer.MIN_VALUE));
    }

    private static void promises26To28() {
        BirdThatDrinks x = uneven();
        List<Integer> gaps = gaps(x);
        int longer = 0;
        int shorter = 0;
        for (int i = 1; i < gaps.size(); i++) {
            longer += gaps.get(i) > gaps.get(i - 1) ? 1 : 0;
            shorter += gaps.get(i) < gaps.get(i - 1) ? 1 : 0;
        }
        DUE.isTrue("GAPS of many lengths", longer > 1 && shorter > 1 && longer != shorter);
        DUE.inMind(x, "longer(0)", () -> x.longer(0), longerOf(gaps));
        DUE.is("longer(0)", x.longer(0), longer);
        DUE.is("longer(1)", x.longer(1), shorter);
        evenOf(uneven(), gaps);
        slowOf(uneven(), gaps);
        DUE.refuses(x, -4, "even(-1)", () -> x.even(-1));
        DUE.refuses(x, -4, "even(least)", () -> x.even(Integer.MIN_VALUE));
        DUE.refuses(x, -2, "longer(2)", () -> x.longer(2));
        DUE.refuses(x, -2, "longer(-1)", () -> x.longer(-1));
        DUE.refuses(x, -4, "slow(-1)", () -> x.slow(-1));
        DUE.refuses(x, -6, "slow(1000)", () -> x.slow(1000));
    }

    private static void evenOf(BirdThatDrinks x, List<Integer> gaps) {
        int steps = 0;
        int before = x.even(0);
        for (int more = 0; more < 300; more++) {
            int want = -9;
            for (int i = gaps.size() - 1; i >= 1; i--) {
                want = Math.abs(gaps.get(i) - gaps.get(i - 1)) > more ? i : want;
            }
            int answer = x.even(more);
            steps += answer == before ? 0 : 1;
            before = answer;
            DUE.is("even(" + more + ")", answer, want);
        }
        DUE.isTrue("EVEN has several answers", steps > 1);
        DUE.is("even(greatest)", x.even(Integer.MAX_VALUE), -9);
    }

    private static int longerOf(List<Integer> gaps) {
        int many = 0;
        for (int i = 1; i < gaps.size(); i++) {
            many += gaps.get(i) - gaps.get(i - 1) > 0 ? 1 : 0;
        }
        return many;
    }

    private static void slowOf(BirdThatDrinks x, List<Integer> gaps) {
        DUE.is("slow(0): GAP 0 itself is not asked", x.slow(0), 1);
        DUE.is("slow(999)", x.slow(999), -9);
        int greatest = 0;
        for (int times = 1; times < 80; times++) {
            int want = -9;
            for (int i = gaps.size() - 1; i >= 1; i--) {
                want = gaps.get(i) > times * gaps.get(0) / 10 ? i : want;
            }
            greatest = Math.max(greatest, want);
            DUE.is("slow(" + times + ")", x.slow(times), want);
        }
        DUE.isTrue("SLOW is found behind the second GAP", greatest > 1);
    }

    private static void promise29() {
        BirdThatDrinks x = uneven();
        List<Integer> dots = dots(x);
        int all = 0;
        for (int i = 0; i < 14; i++) {
            int want = 0;
            for (int dot : dots) {
                want += dot / 100 == i ? 1 : 0;
            }
            all += want;
            DUE.is("hour(" + i + ")", x.hour(i), want);
        }
        DUE.is("all DOTS are in some HOUR", all, x.count(0));
        DUE.is("hour(greatest)", x.hour(Integer.MAX_VALUE), 0);
        DUE.is("hour(42949673): no wrap of 100 i", x.hour(42949673), 0);
        DUE.is("hour(42949672): no wrap of 100 i", x.hour(42949672), 0);
        DUE.refuses(x, -4, "hour(-1)", () -> x.hour(-1));
        hourEdges();
    }

    /** With STUFF 10, PEG 1 and much warmth he NODS in TENTH t + 6 when he is warmed at t. */
    private static void hourEdges() {
        int[] tenths = {99, 100, 199, 200};
        for (int tenth : tenths) {
            BirdThatDrinks x = new BirdThatDrinks();
            x.set(2, 10);
            x.set(1, 1);
            x.set(7, 1);
            x.set(3, 9);
            x.run(tenth - 5);
            x.set(10, 9);
            x.run(6);
            DUE.is("DOT 0", x.dot(0), tenth);
            DUE.is("hour of it", x.hour(tenth / 100), 1);
            DUE.is("hour ahead", x.hour(tenth / 100 - (tenth > 99 ? 1 : 0)), tenth > 99 ? 0 : 1);
            DUE.is("hour behind", x.hour(tenth / 100 + 1), 0);
        }
    }

    private static void noDots() {
        BirdThatDrinks x = new BirdThatDrinks();
        DUE.is("dot(0)", x.dot(0), -9);
        DUE.is("even(0)", x.even(0), -9);
        DUE.is("longer(0)", x.longer(0), 0);
        DUE.is("longer(1)", x.longer(1), 0);
        DUE.is("slow(0)", x.slow(0), -9);
        DUE.is("hour(0)", x.hour(0), 0);
        x.wet(500);
        for (int i = 0; i < 100 && x.count(0) < 2; i++) {
            x.run(4);
            DUE.is("without GAP 1, slow(0)", x.slow(0), -9);
            DUE.is("without GAP 1, even(0)", x.even(0), -9);
        }
    }

    private static void promise30() {
        BirdThatDrinks x = new BirdThatDrinks();
        DUE.refuses(x, -4, "gap(-1)", () -> x.gap(-1));
        DUE.refuses(x, -6, "gap(10000)", () -> x.gap(10000));
        for (int i = 1; i <= 10; i++) {
            DUE.is("gap", x.gap(i == 1 ? 0 : 9999), i);
            DUE.is("count(2)", x.count(2), i);
        }
        DUE.refuses(x, -6, "an eleventh", () -> x.gap(0));
        DUE.refuses(x, -4, "an eleventh below", () -> x.gap(-1));
        DUE.is("count(2)", x.count(2), 10);
    }

    private static void tell(BirdThatDrinks x, List<Integer> gaps) {
        for (int gap : gaps) {
            x.gap(gap);
        }
    }

    private static void isJudged(BirdThatDrinks x, List<Integer> row, int slip, int want) {
        tell(x, row);
        DUE.is("count(2)", x.count(2), row.size());
        DUE.inMindBut(x, "judge(" + slip + ") of " + row, () -> x.judge(slip), want);
        DUE.is("the ROW has none", x.count(2), 0);
    }

    private static void promise31() {
        BirdThatDrinks x = new BirdThatDrinks();
        isJudged(x, List.of(), 0, -9);
        isJudged(x, List.of(5), 9999, 0);
        x.wet(900);
        x.run(1500); // DOTS 310, 602, 894, 1186 and the next not yet
        DUE.is("count(0)", x.count(0), gaps(x).size() + 1);
        List<Integer> gaps = gaps(x);
        int many = gaps.size();
        DUE.isTrue("GAPS", many >= 3);
        isJudged(x, gaps, 0, -9);
        isJudged(x, List.of(), 9999, 0);
        isJudged(x, gaps.subList(0, many - 1), 0, many - 1);
        List<Integer> more = new ArrayList<>(gaps);
        more.add(1);
        isJudged(x, more, 0, many);
        more.add(1);
        isJudged(x, more, 9999, many);
        for (int off : new int[] {-7, 7}) {
            List<Integer> other = new ArrayList<>(gaps);
            other.set(1, gaps.get(1) + off);
            isJudged(x, other, 7, -9);
            isJudged(x, other, 6, 1);
            other.set(2, gaps.get(2) - 3 * off);
            isJudged(x, other, 6, 1);
            isJudged(x, other, 7, 2);
            isJudged(x, other.subList(0, 2), 6, 1);
        }
        tell(x, gaps);
        DUE.refuses(x, -4, "judge(-1)", () -> x.judge(-1));
        DUE.refuses(x, -6, "judge(10000)", () -> x.judge(10000));
        DUE.is("it stays", x.judge(0), -9);
    }

    private static void promise32() {
        BirdThatDrinks x = new BirdThatDrinks();
        DUE.refuses(x, -3, "driest(0, 0), no ROW", () -> x.driest(0, 0));
        DUE.refuses(x, -3, "driest(9999, 2), no ROW", () -> x.driest(9999, 2));
        DUE.refuses(x, -2, "driest(-1, 3)", () -> x.driest(-1, 3));
        DUE.refuses(x, -2, "driest(10000, -1)", () -> x.driest(10000, -1));
        DUE.refuses(x, -4, "driest(-1, 0), no ROW", () -> x.driest(-1, 0));
        DUE.refuses(x, -6, "driest(10000, 0), no ROW", () -> x.driest(10000, 0));
        x.set(9, 3);
        x.set(1, 10);
        BirdThatDrinks other = new BirdThatDrinks();
        other.set(9, 3);
        other.set(8, 55);
        other.set(1, 10);
        other.wet(500);
        other.run(3000);
        List<Integer> gaps = gaps(other);
        DUE.isTrue("many GAPS of DRY 55", gaps.size() >= 10);
        boolean some = false;
        for (int k : new int[] {1, 4, 10}) {
            BirdThatDrinks y = new BirdThatDrinks();
            y.set(9, 3);
            y.set(1, 10);
            tell(y, gaps.subList(0, k));
            for (int slip : new int[] {0, 1, 2, 3, 10, 60, 9999}) {
                int[] want = dryFits(gaps.subList(0, k), slip);
                for (int what = 0; what < 3; what++) {
                    int asked = what;
                    DUE.inMind(y, "driest(" + slip + ", " + what + "), " + k, () -> y.driest(slip, asked), want[what]);
                }
                some = some || want[2] > 1 && want[2] < 15;
                DUE.is("the ROW stays", y.count(2), k);
            }
        }
        DUE.isTrue("DRIEST is some of them", some);
        lastTenth();
        x.judge(0);
        x.gap(9999);
        DUE.is("none fits, the least", x.driest(0, 0), -9);
        DUE.is("none fits, the greatest", x.driest(0, 1), -9);
        DUE.is("none fits, how many", x.driest(0, 2), 0);
    }

    /** One DRY's GAP ends in TENTH 3000 and is not of 3000 TENTHS. */
    private static void lastTenth() {
        BirdThatDrinks x = new BirdThatDrinks();
        int[] own = {9, 2, 1, 54, 4, 14, 3, 3};
        for (int i = 0; i < own.length; i += 2) {
            x.set(own[i], own[i + 1]);
        }
        x.gap(9999);
        int many = 0;
        int next = 0;
        for (int dry = 0; dry < 100; dry += 5) {
            x.set(8, dry);
            x.image();
            x.wet(500);
            many += x.run(3000) >= 2 ? 1 : 0;
            next += x.run(1) >= 2 ? 1 : 0;
            x.on();
        }
        DUE.is("driest(9999, 2)", x.driest(9999, 2), many);
        DUE.is("one more in a TENTH more", next, many + 1);
    }

    /** The least, the greatest and how many DRYS fit, with WIND 3 and PEG 10, by real birds. */
    private static int[] dryFits(List<Integer> row, int slip) {
        int[] found = {-9, -9, 0};
        for (int dry = 0; dry < 100; dry += 5) {
            BirdThatDrinks y = new BirdThatDrinks();
            y.set(9, 3);
            y.set(8, dry);
            y.set(1, 10);
            y.wet(500);
            y.run(3000);
            List<Integer> gaps = gaps(y);
            boolean fits = gaps.size() >= row.size();
            for (int i = 0; fits && i < row.size(); i++) {
                fits = Math.abs(gaps.get(i) - row.get(i)) <= slip;
            }
            if (fits) {
                found[0] = found[0] == -9 ? dry : found[0];
                found[1] = dry;
                found[2]++;
            }
        }
        return found;
    }

    private static int nodsOf(int sort, int dry) {
        BirdThatDrinks y = new BirdThatDrinks();
        y.set(3, sort);
        y.set(8, dry);
        y.set(9, 4);
        y.set(1, 80);
        y.wet(500);
        return y.run(1000);
    }

    private static int bitsOf(int[] dries, int[] nods) {
        int bits = 0;
        for (int sort = 1; sort <= 9; sort++) {
            boolean so = true;
            for (int i = 0; i < 3; i++) {
                so = so && nodsOf(sort, dries[i]) == nods[i];
            }
            bits |= so ? 1 << sort : 0;
        }
        return bits;
    }

    private static void promise33() {
        BirdThatDrinks x = new BirdThatDrinks();
        x.set(9, 4);
        x.set(1, 80);
        DUE.is("sorts(0, 0)", x.sorts(0, 0), 1022);
        DUE.is("sorts(999999, 999999)", x.sorts(999999, 999999), 0);
        boolean several = false;
        for (int[] dries : new int[][] {{5, 50, 99}, {0, 0, 3}, {99, 2, 1}, {7, 8, 9}}) {
            BirdThatDrinks y = new BirdThatDrinks();
            y.set(9, 4);
            y.set(1, 80);
            for (int sort = 1; sort <= 9; sort++) {
                int[] nods = {nodsOf(sort, dries[0]), nodsOf(sort, dries[1]), nodsOf(sort, dries[2])};
                int told = 10000 * dries[0] + 100 * dries[1] + dries[2];
                int toldNods = 10000 * nods[0] + 100 * nods[1] + nods[2];
                int bits = bitsOf(dries, nods);
                several = several || Integer.bitCount(bits) > 1 && bits != 1022;
                DUE.inMind(y, "sorts(" + told + ", " + toldNods + ")", () -> y.sorts(told, toldNods), bits);
                DUE.is("NODS by one off", y.sorts(told, toldNods + 10000), bitsOf(dries,
                    new int[] {nods[0] + 1, nods[1], nods[2]}));
            }
        }
        DUE.isTrue("several SORTS alike", several);
        for (int bad : new int[] {-1, Integer.MIN_VALUE}) {
            DUE.refuses(x, -4, "sorts, dries below", () -> x.sorts(bad, 1000000));
            DUE.refuses(x, -4, "sorts, nods below", () -> x.sorts(1000000, bad));
        }
        for (int bad : new int[] {1000000, Integer.MAX_VALUE}) {
            DUE.refuses(x, -6, "sorts, dries above", () -> x.sorts(bad, 0));
            DUE.refuses(x, -6, "sorts, nods above", () -> x.sorts(0, bad));
        }
    }

    private static void promise34() {
        BirdThatDrinks x = new BirdThatDrinks();
        x.set(9, 4);
        x.set(1, 80);
        boolean out = false;
        for (int told = 1; told <= 9; told++) {
            int[] nods = {nodsOf(told, 7), nodsOf(told, 8), nodsOf(told, 9)};
            int toldNods = 10000 * nods[0] + 100 * nods[1] + nods[2];
            int bits = bitsOf(new int[] {7, 8, 9}, nods);
            BirdThatDrinks y = new BirdThatDrinks();
            y.set(9, 4);
            y.set(1, 80);
            for (int s = 1; s <= 9; s++) {
                int sort = s;
                boolean so = (bits & 1 << sort) != 0;
                out = out || !so && bits != 0;
                DUE.inMind(y, "odds above", () -> y.odds(sort, 70809, toldNods, 0), so ? 1 : 0);
                DUE.inMind(y, "odds below", () -> y.odds(sort, 70809, toldNods, 1), so ? Integer.bitCount(bits) : 1);
            }
        }
        DUE.isTrue("some SORTS are out", out);
        DUE.is("odds(9, 0, 0, 1)", x.odds(9, 0, 0, 1), 9);
        DUE.is("odds(1, 0, 1, 0)", x.odds(1, 0, 1, 0), 0);
        DUE.is("odds(1, 0, 1, 1)", x.odds(1, 0, 1, 1), 1);
        for (int sort : new int[] {Integer.MIN_VALUE, -1, 0, 10, 33, Integer.MAX_VALUE}) {
            DUE.refuses(x, -1, "odds of SORT " + sort, () -> x.odds(sort, -1, 1000000, 2));
        }
        for (int part : new int[] {-1, 2}) {
            DUE.refuses(x, -2, "odds part " + part, () -> x.odds(1, -1, 1000000, part));
        }
        DUE.refuses(x, -4, "odds dries", () -> x.odds(9, -1, 1000000, 1));
        DUE.refuses(x, -4, "odds nods", () -> x.odds(9, 1000000, -1, 1));
        DUE.refuses(x, -6, "odds dries", () -> x.odds(1, 1000000, 0, 0));
        DUE.refuses(x, -6, "odds nods", () -> x.odds(1, 0, 1000000, 0));
    }
}
