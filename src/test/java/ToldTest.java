/** Promises 1 to 10: what is told to him, and how he is. */
public final class ToldTest {
    private static final Due DUE = new Due("ToldTest");

    public static void main(String[] args) {
        promise1();
        promise2();
        promise3();
        promise3Faults();
        promise3Room();
        promise3Hours();
        promise4();
        promise5();
        promise6();
        promise7();
        promise7Air();
        promise7Bell();
        promise7Press();
        promise7Tipping();
        promise7Swinging();
        promise7Stopped();
        promise7Hanging();
        promise7Drum();
        promise8();
        promise9();
        promise10();
        DUE.end();
    }

    /** now(0) .. now(12). */
    private static void isNow(String when, BirdThatDrinks x, int... want) {
        for (int i = 0; i < want.length; i++) {
            DUE.is(when + ", now(" + i + ")", x.now(i), want[i]);
        }
    }

    private static void promise1() {
        BirdThatDrinks x = new BirdThatDrinks();
        isNow("new", x, 200, 200, 0, 0, 0, 0, 0, 0, 0, 0, 0, 500, 0);
        int[] first = {40, 50, 60, 3, 0, 0, 1, 0, 50, 1, 0, 200, 0, 0, 10};
        for (int i = 0; i <= 3; i++) {
            DUE.is("new, count(" + i + ")", x.count(i), 0);
            DUE.is("new, air(" + i + ")", x.air(i), first[8 + i]);
        }
        for (int i = 11; i <= 16; i++) {
            DUE.is("new, count(" + i + ")", x.count(i), 0);
        }
        DUE.is("new, full()", x.full(), 3000);
        DUE.is("new, dot(0)", x.dot(0), -9);
        for (int i = 0; i < 15; i++) {
            DUE.is("new, set(" + i + ", first)", x.set(i, first[i]), first[i]);
        }
        new BirdThatDrinks().run(100);
        DUE.is("another object's run is not his, now(6)", x.now(6), 0);
    }

    private static void promise2() {
        BirdThatDrinks x = new BirdThatDrinks();
        DUE.refuses(x, -4, "feed(0, 0)", () -> x.feed(0, 0));
        DUE.refuses(x, -4, "feed(least, -1)", () -> x.feed(Integer.MIN_VALUE, -1));
        DUE.refuses(x, -6, "feed(9, 0)", () -> x.feed(9, 0));
        DUE.refuses(x, -6, "feed(greatest, 0)", () -> x.feed(Integer.MAX_VALUE, 0));
        DUE.is("feed(1, 'd' and more)", x.feed(1, 0x7878787878787864L), 1);
        DUE.is("feed(4, \"0:7;\")", x.feed(4, Due.bytes("0:7;")), 5);
        DUE.is("book()", x.book(), 1);
        DUE.is("air(0)", x.air(0), 7);
        for (int i = 1; i <= 7; i++) {
            DUE.is("feed(8, -1)", x.feed(8, -1L), 8 * i);
        }
        DUE.is("feed(7, 0)", x.feed(7, 0), 63);
        DUE.refuses(x, -6, "feed(2, 0) with 63", () -> x.feed(2, 0));
        DUE.is("feed(1, 0) with 63", x.feed(1, 0), 64);
        DUE.refuses(x, -6, "feed(1, 0) with 64", () -> x.feed(1, 0));
        DUE.refuses(x, -4, "feed(0, 0) with 64", () -> x.feed(0, 0));
        DUE.is("book() of bytes 255", x.book(), -1000);
        DUE.is("count(3)", x.count(3), 0);
        x.feed(5, Due.bytes("d0:7;"));
        DUE.is("all eight bytes, highest last", x.feed(8, Due.bytes("l0:3;w0:")), 13);
        x.feed(2, Due.bytes("5;"));
        DUE.is("book()", x.book(), 3);
        DUE.is("air(2)", x.air(2), 3);
        DUE.is("air(1)", x.air(1), 5);
    }

    private static void isBook(String text, int want) {
        BirdThatDrinks x = new BirdThatDrinks();
        DUE.is("book of \"" + text + "\"", Due.book(x, text), want);
        DUE.is("then count(1)", x.count(1), Math.max(0, want));
        DUE.is("then count(3)", x.count(3), 0);
        for (int i = 11; i <= 16; i++) {
            DUE.is("a FAULT is not counted, count(" + i + ")", x.count(i), 0);
        }
    }

    private static void promise3() {
        isBook("d0:0;", 1);
        isBook("d0:99;", 1);
        isBook("w9999:9;", 1);
        isBook("l0000:009;", 1);
        isBook("r0:100;r0:400;", 2);
        isBook("d1:1;w2:2;l3:3;r4:104;", 4);
    }

    private static void promise3Faults() {
        isBook("", -1000);
        isBook("x", -1000);
        isBook("D0:1;", -1000);
        isBook(";", -1000);
        isBook("d", -1001);
        isBook("d:1;", -1001);
        isBook("dx", -1001);
        isBook("d0", -1002);
        isBook("d0;", -1002);
        isBook("d1234", -1005);
        isBook("d12345:1;", -1005);
        isBook("d0:", -1003);
        isBook("d0:;", -1003);
        isBook("d0:-1;", -1003);
        isBook("d0:1", -1004);
        isBook("d0:1:", -1004);
        isBook("d0:0001;", -1006);
        isBook("d0:001", -1006);
        isBook("d0:1;;", -1005);
        isBook("d0:1; w0:1;", -1005);
        isBook("d0:1;w", -1006);
        isBook("d0:1;w0:1;l0:1;r0:100;q", -1022);
        isBook("d0:/;", -1003);
        isBook("d0::;", -1003);
        isBook("d0:1;d0:1;d0:1;d0:1;d0:1;d0:1;d0:1;d0:1;d0:1;d0:1;d0:1;d0:1;d0:1", -1064);
        isBook("d0:100;", -2000);
        isBook("w0:10;", -2000);
        isBook("l0:10;", -2000);
        isBook("r0:99;", -2000);
        isBook("r0:401;", -2000);
        isBook("d0:999;", -2000);
        isBook("d0:1;w0:1;r0:1;", -2010);
        isBook("d0:100;x", -1007);
        isBook("d0:100;w0:10;", -2000);
        BirdThatDrinks x = new BirdThatDrinks();
        Due.book(x, "d0:1;");
        DUE.is("a FAULT behind a right one", Due.book(x, "d0:2;d0:100;"), -2005);
        DUE.is("nothing of it comes, air(0)", x.air(0), 1);
        DUE.is("nothing of it comes, count(1)", x.count(1), 1);
        x.feed(1, 'd');
        x.feed(1, 0);
        DUE.is("a byte 0", x.book(), -1001);
    }

    private static void promise3Room() {
        BirdThatDrinks x = new BirdThatDrinks();
        String nine = "d0:1;d0:1;d0:1;d0:1;d0:1;d0:1;d0:1;d0:1;d0:1;";
        DUE.is("nine", Due.book(x, nine), 9);
        DUE.is("nine more", Due.book(x, nine), 9);
        DUE.is("three, room for two", Due.book(x, "d0:1;w0:2;l0:3;"), -2010);
        DUE.is("count(1)", x.count(1), 18);
        DUE.is("a VALUE behind the room", Due.book(x, "d0:1;w0:2;l0:3;w0:99;"), -2010);
        DUE.is("a VALUE ahead of the room", Due.book(x, "d0:1;w0:99;l0:3;w0:9;"), -2005);
        DUE.is("two", Due.book(x, "d0:5;w0:2;"), 2);
        DUE.is("count(1)", x.count(1), 20);
        DUE.is("one more", Due.book(x, "d0:5;"), -2000);
        DUE.is("a fault of kind 1 first", Due.book(x, "d0:5;d"), -1006);
        DUE.is("air(0)", x.air(0), 5);
    }

    private static void promise3Hours() {
        BirdThatDrinks x = new BirdThatDrinks();
        Due.book(x, "d5:10;d3:20;d5:30;w4:7;d4:40;l9:9;r0:150;");
        int[] dry = {50, 50, 50, 20, 40, 30, 30};
        int[] wind = {1, 1, 1, 1, 7, 7, 7};
        for (int time = 0; time < dry.length; time++) {
            DUE.is("air(0) at " + time, x.air(0), dry[time]);
            DUE.is("air(1) at " + time, x.air(1), wind[time]);
            DUE.is("air(2) at " + time, x.air(2), 0);
            DUE.is("air(3) at " + time, x.air(3), 150);
            x.run(1);
        }
        Due.book(x, "d3:60;d5:70;");
        DUE.is("of alike the latest told", x.air(0), 70);
        x.set(8, 1);
        DUE.is("the BOOK is over the setting", x.air(0), 70);
        x.set(10, 5);
        DUE.is("ahead of the first STATEMENT the setting", x.air(2), 5);
        x.run(2);
        DUE.is("the BOOK, as told", x.air(2), 9);
    }

    private static void promise4() {
        int[] least = {10, 1, 10, 1, 0, 0, 1, 0, 0, 0, 0, 100, 0, 0, 0};
        int[] greatest = {99, 99, 99, 9, 99, 9, 4, 1, 99, 9, 9, 400, 1, 1, 999};
        int[] first = {40, 50, 60, 3, 0, 0, 1, 0, 50, 1, 0, 200, 0, 0, 10};
        BirdThatDrinks x = new BirdThatDrinks();
        for (int i = 0; i < 15; i++) {
            int what = i;
            DUE.is("set(" + i + ", least)", x.set(i, least[i]), first[i]);
            DUE.is("set(" + i + ", greatest)", x.set(i, greatest[i]), least[i]);
            DUE.refuses(x, -4, "set(" + i + ", below)", () -> x.set(what, least[what] - 1));
            DUE.refuses(x, -6, "set(" + i + ", above)", () -> x.set(what, greatest[what] + 1));
            DUE.refuses(x, -4, "set(" + i + ", least int)", () -> x.set(what, Integer.MIN_VALUE));
            DUE.refuses(x, -6, "set(" + i + ", greatest int)", () -> x.set(what, Integer.MAX_VALUE));
            DUE.is("set(" + i + ", first)", x.set(i, first[i]), greatest[i]);
        }
        DUE.refuses(x, -2, "set(15, -1)", () -> x.set(15, -1));
        DUE.refuses(x, -2, "set(-1, 1000)", () -> x.set(-1, 1000));
        DUE.refuses(x, -2, "set(least, 0)", () -> x.set(Integer.MIN_VALUE, 0));
        DUE.refuses(x, -2, "set(greatest, 0)", () -> x.set(Integer.MAX_VALUE, 0));
    }

    private static void promise5() {
        BirdThatDrinks x = new BirdThatDrinks();
        DUE.is("glass(0)", x.glass(0), 500);
        DUE.is("glass(9999)", x.glass(9999), 0);
        DUE.is("now(11)", x.now(11), 9999);
        DUE.refuses(x, -4, "glass(-1)", () -> x.glass(-1));
        DUE.refuses(x, -6, "glass(10000)", () -> x.glass(10000));
        DUE.is("glass(7)", x.glass(7), 9999);
    }

    private static void promise6() {
        BirdThatDrinks x = new BirdThatDrinks();
        DUE.is("wet(3999)", x.wet(3999), 0);
        DUE.is("wet(4001)", x.wet(4001), 3999);
        DUE.is("now(2)", x.now(2), 4000);
        DUE.is("wet(9900)", x.wet(9900), 4000);
        DUE.is("now(2)", x.now(2), 4000);
        x.set(0, 99);
        DUE.is("wet(9900) with FELT 99", x.wet(9900), 4000);
        DUE.is("wet(0)", x.wet(0), 9900);
        DUE.is("now(2)", x.now(2), 0);
        DUE.refuses(x, -4, "wet(-1)", () -> x.wet(-1));
        DUE.refuses(x, -6, "wet(9901)", () -> x.wet(9901));
        x.set(0, 10);
        x.wet(1001);
        DUE.is("now(2) with FELT 10", x.now(2), 1000);
    }

    private static void promise7() {
        BirdThatDrinks x = new BirdThatDrinks();
        DUE.refuses(x, -4, "run(0)", () -> x.run(0));
        DUE.refuses(x, -6, "run(3001)", () -> x.run(3001));
        DUE.is("run(1)", x.run(1), 0);
        DUE.is("run(3000)", x.run(3000), 0);
        DUE.is("now(6)", x.now(6), 3001);
        x.wet(500);
        int nods = x.run(3000);
        DUE.isTrue("he nods", nods > 0);
        DUE.is("now(7)", x.now(7), nods);
        x.wet(500);
        int more = x.run(3000);
        DUE.isTrue("he nods again", more > nods);
        DUE.is("all NODS are told, now(7)", x.now(7), more);
    }

    /** Each line of it figured by hand from "A TENTH". */
    private static void promise7Air() {
        BirdThatDrinks x = new BirdThatDrinks();
        x.wet(500);
        x.run(1); // OFF 50 x 2 / 4 = 25, HEAD 2 less, PRESS 2 x 3 / 3
        isNow("DRY 50", x, 198, 200, 475, 1, 25, 25, 1, 0, 0, 1, 0, 500, 2);
        x.set(9, 9);
        x.run(1); // OFF 125, HEAD 12 less and (200 less 198) / 20 = 0 more
        isNow("WIND 9", x, 186, 200, 350, 8, 150, 150, 2, 0, 0, 2, 0, 500, 14);
        x.set(13, 1);
        x.set(8, 55);
        x.run(1); // OFF 550 / 4 = 137, twice 274; HEAD 27 less
        isNow("SPIRIT", x, 159, 200, 76, 28, 424, 424, 3, 0, 0, 3, 0, 500, 41);
        x.run(1); // OFF 76, all there is; HEAD 7 less and 41 / 20 = 2 more
        isNow("WET is gone", x, 154, 200, 0, 51, 500, 500, 4, 0, 0, 4, 0, 500, 46);
        x.set(10, 9);
        x.run(1); // HEAD 46 / 20 = 2 more, TAIL 9 more
        isNow("LAMP 9", x, 156, 209, 0, 77, 500, 500, 5, 0, 0, 5, 0, 500, 53);
        x.set(7, 1);
        x.set(11, 100);
        x.run(1); // HEAD -56 / 20 = -2, TAIL -109 / 20 = -5 and 18
        isNow("BLACK, ROOM 100", x, 154, 222, 0, 111, 500, 500, 6, 0, 0, 6, 0, 500, 68);
        Due.book(x, "d6:40;w6:0;l6:1;r6:300;");
        x.wet(1000);
        x.run(1); // OFF 40 / 4 twice: 20; HEAD 146 / 20 = 7 more, 2 less; TAIL 78 / 20 = 3 and 2 more
        isNow("by the BOOK", x, 159, 227, 980, 145, 520, 520, 7, 0, 0, 7, 0, 500, 68);
    }

    private static void promise7Bell() {
        BirdThatDrinks x = new BirdThatDrinks();
        x.set(8, 3);
        x.set(9, 3);
        x.set(0, 99);
        x.wet(9900);
        x.set(12, 1);
        x.run(334); // 3 each, DAMP 999 behind 333 of them
        DUE.is("DAMP", x.now(4), 1002);
        x.run(1); // DRYNESS 3 less 1
        DUE.is("DAMP by 1000", x.now(4), 1004);
        x.run(498);
        DUE.is("DAMP 2000", x.now(4), 2000);
        x.run(1000);
        DUE.is("DRYNESS 1 up to DAMP 3000", x.now(4), 3000);
        x.run(5);
        DUE.is("DRYNESS 0", x.now(4), 3000);
        x.set(8, 1);
        x.run(5);
        DUE.is("DRYNESS 0 at least", x.now(4), 3000);
        x.set(12, 0);
        x.run(1);
        DUE.is("without BELL, DAMP goes on", x.now(4), 3001);
        DUE.is("GONE", x.now(5), 3001);
    }

    private static void promise7Press() {
        BirdThatDrinks x = new BirdThatDrinks();
        x.set(3, 5);
        x.set(6, 2);
        x.set(10, 9);
        x.set(7, 1);
        x.run(1); // TAIL 218: 18 x 5 / 6 = 15
        DUE.is("PRESS with SORT 5, SIZE 2", x.now(12), 15);
        DUE.is("UP", x.now(3), 7);
        x.set(10, 0);
        x.set(4, 18);
        x.run(1); // 18 / 20 is cut to 0, TAIL stays: 15 less 18; -3 / 2 is cut to -1
        DUE.is("PRESS with CRACK 18", x.now(12), -3);
        DUE.is("UP", x.now(3), 6);
        x.set(4, 99);
        x.run(1);
        DUE.is("PRESS with CRACK 99", x.now(12), -84);
        DUE.is("UP is 0 at least", x.now(3), 0);
        x.set(6, 4);
        x.set(3, 9);
        x.set(4, 0);
        x.run(1);
        DUE.is("PRESS with SORT 9, SIZE 4", x.now(12), 13);
    }

    /** STUFF 10, PEG 1: FULL is 10. */
    private static BirdThatDrinks lowPeg() {
        BirdThatDrinks x = new BirdThatDrinks();
        x.set(2, 10);
        x.set(1, 1);
        x.set(10, 9);
        x.set(7, 1);
        return x;
    }

    private static void promise7Tipping() {
        BirdThatDrinks x = lowPeg();
        x.run(1); // TAIL 218, PRESS 18, UP 9
        isNow("RISING", x, 200, 218, 0, 9, 0, 0, 1, 0, 0, 1, 0, 500, 18);
        x.run(1);
        DUE.is("UP", x.now(3), 27);
        DUE.is("TIPPING", x.now(8), 2);
        DUE.is("SINCE", x.now(9), 0);
        x.run(4);
        DUE.is("TIPPING still", x.now(8), 2);
        DUE.is("SINCE", x.now(9), 4);
        DUE.is("NODS", x.now(7), 0);
        DUE.is("UP stays", x.now(3), 27);
        DUE.is("the fifth TENTH of it", x.run(1), 1);
        DUE.is("EMPTYING", x.now(8), 3);
        DUE.is("SINCE", x.now(9), 0);
        DUE.is("DOT", x.dot(0), 6);
        DUE.is("TIME", x.now(6), 7);
        DUE.is("GLASS", x.now(11), 495);
        DUE.is("WET", x.now(2), 500);
        x.run(1); // 27 less 6 and 1
        DUE.is("UP", x.now(3), 20);
        DUE.is("SWINGING", x.now(8), 1);
        DUE.is("SWING", x.now(10), 88);
        drinksWith(5, 0, 0, 500);
        drinksWith(4, 0, 4, 0);
        drinksWith(10, 10, 5, 500);
        drinksWith(9, 10, 9, 0);
        drinksWith(9999, 999, 9994, 500);
        BirdThatDrinks y = lowPeg();
        y.set(0, 10);
        y.set(8, 0);
        y.wet(700);
        y.run(7);
        DUE.is("WET 100 FELT at most", y.now(2), 1000);
    }

    private static void drinksWith(int glass, int reach, int left, int wet) {
        BirdThatDrinks x = lowPeg();
        x.glass(glass);
        x.set(14, reach);
        x.run(7);
        DUE.is("NODS with GLASS " + glass, x.now(7), 1);
        DUE.is("GLASS " + glass + " with REACH " + reach, x.now(11), left);
        DUE.is("WET with GLASS " + glass + " and REACH " + reach, x.now(2), wet);
    }

    private static void promise7Swinging() {
        BirdThatDrinks x = new BirdThatDrinks();
        x.wet(4000);
        for (int i = 0; i < 500 && x.now(8) != 3; i++) {
            x.run(1);
        }
        int up = x.now(3);
        DUE.isTrue("FULL was reached", up >= 3000);
        for (int i = 0; i < 50 && x.now(8) == 3; i++) {
            x.run(1);
            up = up - up / 4 - 1;
            DUE.is("EMPTYING, UP", x.now(3), up);
        }
        DUE.isTrue("UP is 5 STUFF or less", up <= 300);
        int[] swings = {88, 77, 63, 49, 42, 35, 28, 21, 14};
        x.set(4, 99); // PRESS is below 0 from now on: COLD grows
        for (int i = 0; i < 27; i++) {
            DUE.is("SWINGING " + i, x.now(8), 1);
            DUE.is("SINCE", x.now(9), i);
            DUE.is("SWING " + i, x.now(10), swings[i / 3]);
            x.run(1);
        }
        DUE.is("RISING", x.now(8), 0);
        DUE.is("SINCE", x.now(9), 0);
        DUE.is("SWING", x.now(10), 0);
        x.run(22);
        DUE.is("COLD is 49 with that of SWINGING", x.now(8), 0);
        x.run(1);
        DUE.is("COLD is 50 with that of SWINGING", x.now(8), 5);
        BirdThatDrinks y = lowPeg();
        y.run(8);
        DUE.is("SWINGING", y.now(8), 1);
        y.run(1);
        DUE.is("TIPPING out of SWINGING", y.now(8), 2);
        DUE.is("SWING", y.now(10), 0);
    }

    private static void promise7Stopped() {
        BirdThatDrinks x = new BirdThatDrinks();
        x.run(49);
        DUE.is("COLD 49", x.now(8), 0);
        x.run(1);
        DUE.is("STOPPED", x.now(8), 5);
        DUE.is("SINCE", x.now(9), 0);
        x.glass(0);
        x.run(60);
        DUE.is("STOPPED stays", x.now(8), 5);
        DUE.is("SINCE", x.now(9), 60);
        x.wet(500);
        x.run(1);
        DUE.is("RISING again", x.now(8), 0);
        DUE.is("SINCE", x.now(9), 0);
        DUE.is("UP", x.now(3), 1);
        stopsAs(9, 0, 10, 6);
        stopsAs(10, 0, 10, 5);
        stopsAs(0, 0, 0, 5);
        stopsAs(9, 1, 10, 5);
        BirdThatDrinks y = new BirdThatDrinks();
        y.run(49);
        y.set(10, 1);
        y.run(1); // PRESS 1: COLD is 0 again
        y.set(10, 0);
        y.set(4, 1);
        y.run(49);
        DUE.is("COLD 49 from anew", y.now(8), 0);
        y.run(1);
        DUE.is("COLD 50 from anew", y.now(8), 5);
        BirdThatDrinks z = lowPeg();
        z.set(10, 0);
        z.run(50);
        DUE.is("STOPPED", z.now(8), 5);
        z.set(10, 9);
        z.set(3, 9);
        z.run(1); // TAIL 218: PRESS 54, UP 27
        DUE.is("TIPPING out of STOPPED", z.now(8), 2);
    }

    private static void stopsAs(int glass, int wet, int reach, int kind) {
        BirdThatDrinks x = new BirdThatDrinks();
        x.set(8, 0);
        x.glass(glass);
        x.wet(wet);
        x.set(14, reach);
        x.run(50);
        DUE.is("GLASS " + glass + ", WET " + wet + ", REACH " + reach, x.now(8), kind);
        x.set(10, 9);
        x.run(1);
        DUE.is("warmed, RISING", x.now(8), 0);
    }

    private static void promise7Hanging() {
        BirdThatDrinks x = new BirdThatDrinks();
        x.set(2, 10);
        x.set(1, 99);
        x.set(5, 1); // FULL is 1000, as 100 STUFF
        x.set(10, 9);
        x.set(3, 9);
        x.run(30);
        DUE.isTrue("FULL goes ahead of HANGING", x.now(7) > 0 || x.now(8) == 2);
        BirdThatDrinks y = new BirdThatDrinks();
        y.set(2, 10);
        y.set(1, 99);
        y.set(5, 2); // FULL is 1010, above 100 STUFF
        y.set(10, 9);
        y.set(3, 9);
        y.run(100);
        DUE.is("HANGING", y.now(8), 4);
        DUE.is("UP", y.now(3), 1000);
        DUE.is("NODS", y.now(7), 0);
        y.set(10, 0);
        y.set(3, 1);
        y.set(4, 99);
        y.run(1);
        DUE.is("HANGING stays, PRESS below 0", y.now(8), 4);
        DUE.isTrue("UP is less", y.now(3) < 1000);
        y.run(60);
        DUE.is("HANGING stays in the cold", y.now(8), 4);
        DUE.is("UP", y.now(3), 0);
        y.set(4, 0);
        y.set(10, 9);
        y.run(1);
        DUE.is("RISING out of HANGING", y.now(8), 0);
        y.set(3, 9);
        y.run(50);
        DUE.is("HANGING anew", y.now(8), 4);
        y.set(5, 1);
        y.run(1);
        DUE.is("TIPPING out of HANGING", y.now(8), 2);
        BirdThatDrinks z = new BirdThatDrinks();
        z.set(2, 10);
        z.set(1, 99);
        z.set(5, 9);
        z.set(10, 9);
        z.set(3, 9);
        z.run(100);
        z.set(2, 99);
        z.run(1);
        DUE.is("UP below 100 STUFF and PRESS: RISING", z.now(8), 0);
    }

    private static void promise7Drum() {
        BirdThatDrinks x = lowPeg();
        x.glass(9999);
        int nods = x.run(3000);
        DUE.isTrue("more than 60 NODS", nods > 60);
        DUE.is("60 DOTS at most", x.count(0), 60);
        int last = x.dot(59);
        x.run(3000);
        DUE.is("the first 60", x.dot(59), last);
        DUE.is("dot(60)", x.dot(60), -9);
        BirdThatDrinks y = lowPeg();
        y.glass(9999);
        int seen = 0;
        for (int i = 0; i < 400 && seen < 5; i++) {
            if (y.run(1) > seen) {
                DUE.is("DOT " + seen + " is TIME as he nods", y.dot(seen), i);
                DUE.is("and alike in one long run", x.dot(seen), i);
                seen++;
            }
        }
        DUE.is("five were seen", seen, 5);
    }

    private static void promise8() {
        BirdThatDrinks x = new BirdThatDrinks();
        DUE.is("now(13)", x.now(13), 1000000002);
        DUE.is("now(-1)", x.now(-1), 1000000002);
        DUE.is("now(least)", x.now(Integer.MIN_VALUE), 1000000002);
        DUE.is("now(greatest)", x.now(Integer.MAX_VALUE), 1000000002);
        DUE.is("count(12)", x.count(12), 4);
        DUE.refuses(x, -2, "now(13)", () -> x.now(13));
        x.set(11, 400);
        DUE.is("ROOM is told, HEAD is as it was", x.now(0), 200);
        DUE.is("TAIL is as it was", x.now(1), 200);
    }

    private static void promise9() {
        BirdThatDrinks x = new BirdThatDrinks();
        x.set(8, 11);
        x.set(9, 2);
        x.set(10, 3);
        x.set(11, 104);
        DUE.is("air(0)", x.air(0), 11);
        DUE.is("air(1)", x.air(1), 2);
        DUE.is("air(2)", x.air(2), 3);
        DUE.is("air(3)", x.air(3), 104);
        DUE.refuses(x, -2, "air(4)", () -> x.air(4));
        DUE.refuses(x, -2, "air(-1)", () -> x.air(-1));
        Due.book(x, "r1:300;");
        DUE.is("air(3) ahead of it", x.air(3), 104);
        x.run(1);
        DUE.is("air(3) by the BOOK", x.air(3), 300);
    }

    private static void promise10() {
        BirdThatDrinks x = new BirdThatDrinks();
        x.set(2, 99);
        x.set(1, 99);
        x.set(5, 9);
        DUE.is("full()", x.full(), 9891);
        x.set(2, 10);
        x.set(1, 1);
        x.set(5, 0);
        DUE.is("full()", x.full(), 10);
    }
}
