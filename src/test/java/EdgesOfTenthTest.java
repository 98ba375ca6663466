/** "A TENTH" in "Terms": where each number of THE AIR is cut, held or ended, figured by hand. */
public final class EdgesOfTenthTest {
    private static final Due DUE = new Due("EdgesOfTenthTest");
    private static final int HEAD = 0;
    private static final int TAIL = 1;
    private static final int WET = 2;
    private static final int DAMP = 4;
    private static final int GONE = 5;
    private static final int PRESS = 12;

    public static void main(String[] args) {
        airAtTime();
        bell();
        bellLeast();
        windAndOne();
        byFour();
        spirit();
        wetAtMost();
        wetLess();
        warmthByTwenty();
        offByTen();
        lamp();
        black();
        pressBySort();
        pressBySize();
        lessCrack();
        latestPress();
        oneMore();
        DUE.end();
    }

    /** Pairs of setting and number. */
    private static BirdThatDrinks with(int... pairs) {
        BirdThatDrinks x = new BirdThatDrinks();
        x.set(Poised.FELT, 99);
        for (int i = 0; i + 1 < pairs.length; i += 2) {
            x.set(pairs[i], pairs[i + 1]);
        }
        return x;
    }

    /** What is OFF in one TENTH, by DAMP. */
    private static int off(BirdThatDrinks x) {
        int before = x.now(DAMP);
        x.run(1);
        return x.now(DAMP) - before;
    }

    private static void airAtTime() {
        DUE.sentence("THE AIR by the BOOK at TIME.");
        for (int tenth = 0; tenth <= 4; tenth++) {
            BirdThatDrinks x = with(Poised.DRY, 4, Poised.WIND, 0);
            x.wet(9900);
            Due.book(x, "d" + tenth + ":8;");
            BirdThatDrinks y = with(Poised.DRY, 4, Poised.WIND, 0);
            y.wet(9900);
            Due.book(y, "w" + tenth + ":1;");
            BirdThatDrinks z = with();
            Due.book(z, "l" + tenth + ":3;");
            BirdThatDrinks v = with();
            Due.book(v, "r" + tenth + ":260;");
            for (int time = 0; time <= 5; time++) {
                DUE.is("DRY from " + tenth + ", OFF at " + time, off(x), time < tenth ? 1 : 2);
                DUE.is("WIND from " + tenth + ", OFF at " + time, off(y), time < tenth ? 1 : 2);
                int tail = z.now(TAIL);
                z.run(1);
                DUE.is("LAMP from " + tenth + ", at " + time, z.now(TAIL) - tail, time < tenth ? 0 : 3);
                v.run(1);
                DUE.isTrue("ROOM from " + tenth + ", at " + time, v.now(HEAD) > 200 == time >= tenth);
            }
        }
    }

    /** A bird whose DAMP is this, all of it gone OFF, with WET for more. */
    private static BirdThatDrinks damp(int damp) {
        BirdThatDrinks x = with(Poised.DRY, 99, Poised.WIND, 9);
        for (int left = damp; left > 0; left -= 247) {
            x.wet(Math.min(left, 247));
            x.run(1);
        }
        DUE.is("DAMP", x.now(DAMP), damp);
        x.wet(9900);
        x.set(Poised.WIND, 3);
        return x;
    }

    private static void bell() {
        DUE.sentence("DRYNESS is DRY, with BELL less DAMP by 1000");
        int[] damps = {0, 999, 1000, 1001, 1999, 2000, 2001};
        for (int damp : damps) {
            BirdThatDrinks x = damp(damp);
            x.set(Poised.BELL, 1);
            x.set(Poised.DRY, 5);
            DUE.is("OFF of DRY 5, BELL, DAMP " + damp, off(x), 5 - damp / 1000);
            BirdThatDrinks y = damp(damp);
            y.set(Poised.DRY, 5);
            DUE.is("OFF of DRY 5, no BELL, DAMP " + damp, off(y), 5);
        }
    }

    private static void bellLeast() {
        DUE.sentence("(0 at least)");
        for (int damp : new int[] {999, 1000, 1001, 1999, 2000, 3000}) {
            for (int dry = 0; dry <= 2; dry++) {
                BirdThatDrinks x = damp(damp);
                x.set(Poised.BELL, 1);
                x.set(Poised.DRY, dry);
                int want = dry > damp / 1000 ? dry - damp / 1000 : 0;
                int wet = x.now(WET);
                int head = x.now(HEAD);
                DUE.is("OFF of DRY " + dry + ", BELL, DAMP " + damp, off(x), want);
                DUE.is("WET", x.now(WET), wet - want);
                DUE.is("GONE", x.now(GONE), damp + want);
                DUE.is("HEAD", x.now(HEAD), head + (200 - head) / 20);
            }
        }
    }

    private static void windAndOne() {
        DUE.sentence("OFF is DRYNESS times (WIND and 1)");
        for (int wind = 0; wind <= 9; wind++) {
            BirdThatDrinks x = with(Poised.DRY, 4, Poised.WIND, wind);
            x.wet(9900);
            DUE.is("OFF of DRY 4, WIND " + wind, off(x), wind + 1);
            BirdThatDrinks y = with(Poised.DRY, 0, Poised.WIND, wind);
            y.wet(9900);
            DUE.is("OFF of DRY 0, WIND " + wind, off(y), 0);
            BirdThatDrinks z = with(Poised.DRY, 99, Poised.WIND, wind);
            z.wet(9900);
            DUE.is("OFF of DRY 99, WIND " + wind, off(z), (int) (24.75 * (wind + 1)));
        }
    }

    private static void byFour() {
        DUE.sentence("by 4 (all cut toward 0)");
        int[] offs = {0, 0, 0, 0, 1, 1, 1, 1, 2, 2, 2, 2, 3};
        for (int dry = 0; dry < offs.length; dry++) {
            BirdThatDrinks x = with(Poised.DRY, dry, Poised.WIND, 0);
            x.wet(9900);
            DUE.is("OFF of DRY " + dry + ", WIND 0", off(x), offs[dry]);
        }
    }

    private static void spirit() {
        DUE.sentence("(then twice that with SPIRIT)");
        int[] offs = {0, 0, 0, 0, 2, 2, 2, 2, 4, 4, 4, 4, 6};
        for (int dry = 0; dry < offs.length; dry++) {
            BirdThatDrinks x = with(Poised.DRY, dry, Poised.WIND, 0, Poised.SPIRIT, 1);
            x.wet(9900);
            DUE.is("OFF of DRY " + dry + ", WIND 0, SPIRIT", off(x), offs[dry]);
        }
        BirdThatDrinks x = with(Poised.DRY, 99, Poised.WIND, 9, Poised.SPIRIT, 1);
        x.wet(9900);
        DUE.is("OFF at most", off(x), 494);
    }

    private static void wetAtMost() {
        DUE.sentence("WET at most");
        for (int spirit = 0; spirit <= 1; spirit++) {
            int off = spirit == 0 ? 25 : 50;
            for (int wet : new int[] {0, 1, off - 1, off, off + 1}) {
                BirdThatDrinks x = with(Poised.SPIRIT, spirit);
                x.wet(wet);
                int want = Math.min(wet, off);
                DUE.is("OFF of WET " + wet, off(x), want);
                DUE.is("WET", x.now(WET), wet - want);
                DUE.is("GONE", x.now(GONE), want);
                DUE.is("HEAD", x.now(HEAD), 200 - want / 10);
            }
        }
    }

    private static void wetLess() {
        DUE.sentence("WET is OFF less; DAMP and GONE OFF more.");
        BirdThatDrinks x = with();
        x.wet(60);
        int[] wet = {35, 10, 0, 0};
        for (int i = 0; i < wet.length; i++) {
            x.run(1);
            DUE.is("WET", x.now(WET), wet[i]);
            DUE.is("DAMP", x.now(DAMP), 60 - wet[i]);
            DUE.is("GONE", x.now(GONE), 60 - wet[i]);
        }
    }

    private static void warmthByTwenty() {
        DUE.sentence("HEAD becomes HEAD and (ROOM less HEAD) by 20 ..; TAIL becomes TAIL and (ROOM less TAIL) by 20");
        for (int room = 100; room <= 400; room++) {
            BirdThatDrinks x = with(Poised.ROOM, room);
            x.run(1);
            int off = room - 200;
            int want = off < 0 ? -(-off / 20) : off / 20;
            DUE.is("HEAD in ROOM " + room, x.now(HEAD), 200 + want);
            DUE.is("TAIL in ROOM " + room, x.now(TAIL), 200 + want);
        }
        int[] rooms = {219, 220, 221, 239, 240, 181, 180, 179, 161, 160};
        int[] heads = {200, 201, 201, 201, 202, 200, 199, 199, 199, 198};
        for (int i = 0; i < rooms.length; i++) {
            BirdThatDrinks x = with(Poised.ROOM, rooms[i]);
            x.run(1);
            DUE.is("HEAD in ROOM " + rooms[i], x.now(HEAD), heads[i]);
            DUE.is("TAIL in ROOM " + rooms[i], x.now(TAIL), heads[i]);
        }
        BirdThatDrinks y = with(Poised.ROOM, 240);
        y.run(2000);
        DUE.is("warmed up to less than 20 below ROOM", y.now(HEAD), 221);
        y.set(Poised.ROOM, 180);
        y.run(2000);
        DUE.is("cooled down to less than 20 above ROOM", y.now(TAIL), 199);
    }

    private static void offByTen() {
        DUE.sentence("less OFF by 10");
        int[] offs = {0, 9, 10, 11, 19, 20, 21, 24};
        for (int off : offs) {
            for (int room : new int[] {200, 219, 220, 181, 180}) {
                BirdThatDrinks x = with(Poised.DRY, 4 * off, Poised.WIND, 0, Poised.ROOM, room);
                x.wet(9900);
                DUE.is("OFF", off(x), off);
                int moved = room == 220 ? 1 : room == 180 ? -1 : 0;
                DUE.is("HEAD of OFF " + off + " in ROOM " + room, x.now(HEAD), 200 + moved - off / 10);
                DUE.is("TAIL of OFF " + off + " in ROOM " + room, x.now(TAIL), 200 + moved);
            }
        }
    }

    private static void lamp() {
        DUE.sentence("and LAMP");
        for (int lamp = 0; lamp <= 9; lamp++) {
            for (int room : new int[] {200, 219, 220, 181, 180}) {
                BirdThatDrinks x = with(Poised.LAMP, lamp, Poised.ROOM, room);
                x.run(1);
                int moved = room == 220 ? 1 : room == 180 ? -1 : 0;
                DUE.is("TAIL of LAMP " + lamp + " in ROOM " + room, x.now(TAIL), 200 + moved + lamp);
                DUE.is("HEAD of LAMP " + lamp + " in ROOM " + room, x.now(HEAD), 200 + moved);
            }
        }
    }

    private static void black() {
        DUE.sentence("(twice LAMP, if BLACK)");
        for (int lamp = 0; lamp <= 9; lamp++) {
            BirdThatDrinks x = with(Poised.LAMP, lamp, Poised.BLACK, 1);
            x.run(1);
            DUE.is("TAIL of LAMP " + lamp + ", BLACK", x.now(TAIL), 200 + 2 * lamp);
            Due.book(x, "l0:" + (9 - lamp) + ";");
            x.run(1);
            DUE.is("TAIL of LAMP by the BOOK, BLACK", x.now(TAIL), 200 + 2 * lamp + 2 * (9 - lamp));
        }
    }

    /** TAIL so much warmer than HEAD (0 .. 18), nothing else. */
    private static BirdThatDrinks warmed(int by) {
        BirdThatDrinks x = with(Poised.LAMP, Math.min(by, 9));
        x.run(1);
        x.set(Poised.LAMP, by - Math.min(by, 9));
        x.run(1);
        x.set(Poised.LAMP, 0);
        DUE.is("TAIL less HEAD", x.now(TAIL) - x.now(HEAD), by);
        return x;
    }

    private static int press(BirdThatDrinks x, int... pairs) {
        for (int i = 0; i + 1 < pairs.length; i += 2) {
            x.set(pairs[i], pairs[i + 1]);
        }
        x.run(1);
        return x.now(PRESS);
    }

    private static void pressBySort() {
        DUE.sentence("PRESS is (TAIL less HEAD) times SORT by (3 ..");
        int[] ofOne = {0, 0, 0, 1, 1, 1, 2, 2, 2, 3};
        int[] ofSeven = {0, 2, 4, 7, 9, 11, 14, 16, 18, 21};
        for (int sort = 1; sort <= 9; sort++) {
            DUE.is("PRESS of 0, SORT " + sort, press(warmed(0), Poised.SORT, sort), 0);
            DUE.is("PRESS of 1, SORT " + sort, press(warmed(1), Poised.SORT, sort), ofOne[sort]);
            DUE.is("PRESS of 7, SORT " + sort, press(warmed(7), Poised.SORT, sort), ofSeven[sort]);
        }
    }

    private static void pressBySize() {
        DUE.sentence("by (3 times SIZE)");
        for (int size = 1; size <= 4; size++) {
            for (int by = 0; by <= 18; by++) {
                int want = 0;
                for (int part = 3 * size; part <= by; part += 3 * size) {
                    want++;
                }
                DUE.is("PRESS of " + by + ", SORT 1, SIZE " + size,
                    press(warmed(by), Poised.SORT, 1, Poised.SIZE, size), want);
            }
        }
    }

    private static void lessCrack() {
        DUE.sentence("less CRACK");
        int[] cracks = {0, 1, 2, 3, 98, 99};
        for (int crack : cracks) {
            DUE.is("PRESS of 1, SORT 2, CRACK " + crack, press(warmed(1), Poised.SORT, 2, Poised.CRACK, crack), -crack);
            DUE.is("PRESS of 2, CRACK " + crack, press(warmed(2), Poised.CRACK, crack), 2 - crack);
        }
    }

    private static void latestPress() {
        DUE.sentence("PRESS as it was in the latest TENTH (0 at first)");
        BirdThatDrinks x = new BirdThatDrinks();
        DUE.is("now(12)", x.now(PRESS), 0);
        x.set(Poised.LAMP, 6);
        x.set(Poised.CRACK, 2);
        DUE.is("now(12), no TENTH yet", x.now(PRESS), 0);
        x.run(1);
        DUE.is("now(12)", x.now(PRESS), 4);
        x.set(Poised.CRACK, 9);
        DUE.is("now(12), as it was", x.now(PRESS), 4);
        x.run(1);
        DUE.is("now(12)", x.now(PRESS), 3);
        Poised tipping = Poised.tipping(10);
        tipping.tenth(33);
        DUE.is("now(12), TIPPING", tipping.x.now(PRESS), 33);
        Poised emptying = Poised.emptying(400);
        emptying.tenth(-33);
        DUE.is("EMPTYING", emptying.kind(), Poised.EMPTYING);
        DUE.is("now(12), EMPTYING", emptying.x.now(PRESS), -33);
    }

    private static void oneMore() {
        DUE.sentence("3 TIME is 1 more.");
        BirdThatDrinks x = new BirdThatDrinks();
        for (int i = 0; i < 5; i++) {
            DUE.is("TIME", x.now(6), i);
            x.run(1);
        }
        Poised p = Poised.tipping(10);
        int time = p.x.now(6);
        p.tenths(5, 1);
        DUE.is("DOT is TIME ahead of 1 more", p.x.dot(0), time + 4);
        DUE.is("TIME", p.x.now(6), time + 5);
    }
}
