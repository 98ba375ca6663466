/** "Terms" on the BOOK, and promises 2, 3 and 9: each place where a BOOK may end or go wrong. */
public final class EdgesOfBookTest {
    private static final Due DUE = new Due("EdgesOfBookTest");
    // Twelve STATEMENTS in 64 bytes.
    private static final String LONGEST = "d00:1;d00:2;d00:3;d00:4;d0:5;d0:6;d0:7;d0:8;d0:9;w0:1;w0:2;w0:3;";

    public static void main(String[] args) {
        tapeRoom();
        lowestFirst();
        letters();
        tenthDigits();
        valueDigits();
        beginWithNought();
        everyByte();
        ends();
        firstKindFirst();
        ranges();
        firstBad();
        room();
        allOrNothing();
        tapeHasNone();
        fromThatTenthOn();
        latestNotBehind();
        latestTold();
        DUE.end();
    }

    private static int bookOf(String text) {
        return Due.book(new BirdThatDrinks(), text);
    }

    private static void is(String text, int want) {
        DUE.is("book of \"" + text + "\"", bookOf(text), want);
    }

    private static void tapeRoom() {
        DUE.sentence("read from a TEXT (64 bytes at most)");
        DUE.is("bytes", LONGEST.length(), 64);
        BirdThatDrinks x = new BirdThatDrinks();
        Due.feed(x, LONGEST.substring(0, 63));
        DUE.is("count(3)", x.count(3), 63);
        DUE.is("two more", x.feed(2, ';'), -6);
        DUE.is("the 64th", x.feed(1, ';'), 64);
        DUE.is("one more", x.feed(1, 'd'), -6);
        DUE.is("count(3)", x.count(3), 64);
        DUE.is("book()", x.book(), 12);
        DUE.is("air(0)", x.air(0), 9);
        DUE.is("air(1)", x.air(1), 3);
        is(LONGEST.substring(0, 63), -1063);
        is(LONGEST.substring(0, 63) + "d", -1063);
        is(LONGEST.substring(0, 59), 11);
    }

    private static void lowestFirst() {
        DUE.sentence("n (1 .. 8) bytes come, the lowest first: how many THE TAPE has.");
        long text = Due.bytes("r3:3999;");
        for (int n = 0; n <= 9; n++) {
            BirdThatDrinks x = new BirdThatDrinks();
            DUE.is("feed(" + n + ")", x.feed(n, text), n == 0 ? -4 : n == 9 ? -6 : n);
            DUE.is("book() of " + n, x.book(), n == 0 || n == 9 ? -1000 : n == 8 ? -1006 : -1000 - Math.min(n, 6));
        }
        BirdThatDrinks x = new BirdThatDrinks();
        DUE.is("eight", x.feed(8, Due.bytes("r00:399;")), 8);
        DUE.is("book()", x.book(), 1);
        DUE.is("air(3)", x.air(3), 399);
        for (int n = 1; n <= 8; n++) {
            BirdThatDrinks y = new BirdThatDrinks();
            y.feed(n, Due.bytes("d00:012;"));
            if (n < 8) {
                y.feed(8 - n, Due.bytes("d00:012;".substring(n)));
            }
            DUE.is("in two pieces, the first of " + n, y.book(), 1);
            DUE.is("air(0)", y.air(0), 12);
        }
        BirdThatDrinks z = new BirdThatDrinks();
        z.feed(5, Due.bytes("d0:1;") | 0xffffff0000000000L);
        DUE.is("what is above n does not come", z.book(), 1);
        z.feed(8, Due.bytes("d0:1;") | 0xff00000000000000L);
        DUE.is("byte 0 is no end", z.book(), -1005);
    }

    private static void letters() {
        DUE.sentence("a letter of what it is (d DRY, w WIND, l LAMP, r ROOM)");
        int[] first = {50, 1, 0, 200};
        for (int b = 0; b <= 255; b++) {
            int what = "dwlr".indexOf((char) b);
            String text = (char) b + (what == 3 ? "0:103;" : "0:3;");
            BirdThatDrinks x = new BirdThatDrinks();
            DUE.is("byte " + b, Due.book(x, text), what < 0 ? -1000 : 1);
            for (int i = 0; i <= 3; i++) {
                DUE.is("air(" + i + ")", x.air(i), i == what ? (i == 3 ? 103 : 3) : first[i]);
            }
        }
    }

    private static void tenthDigits() {
        DUE.sentence("TENTH (1 to 4 digits)");
        is("d:1;", -1001);
        is("d0:1;", 1);
        is("d12:1;", 1);
        is("d123:1;", 1);
        is("d1234:1;", 1);
        is("d9999:1;", 1);
        is("d12345:1;", -1005);
        is("d00000:1;", -1005);
    }

    private static void valueDigits() {
        DUE.sentence("VALUE (1 to 3 digits)");
        is("r0:;", -1003);
        is("d0:1;", 1);
        is("d0:12;", 1);
        is("r0:123;", 1);
        is("r0:1234;", -1006);
        is("d0:0001;", -1006);
    }

    private static void beginWithNought() {
        DUE.sentence("Numbers may begin with 0.");
        String[] tenths = {"7", "07", "007", "0007"};
        String[] values = {"9", "09", "009"};
        for (String tenth : tenths) {
            for (String value : values) {
                BirdThatDrinks x = new BirdThatDrinks();
                DUE.is("w" + tenth + ":" + value + ";", Due.book(x, "w" + tenth + ":" + value + ";"), 1);
                x.run(6);
                DUE.is("air(1) at 6", x.air(1), 1);
                x.run(1);
                DUE.is("air(1) at 7", x.air(1), 9);
            }
        }
        is("w0000:000;", 1);
        is("w00000:0;", -1005);
        is("w0:0000;", -1006);
    }

    /** At each place of a STATEMENT every byte: with some no BOOK can go on, with the others only its end lacks. */
    private static void everyByte() {
        DUE.sentence("kind 1 the place of the first byte with which no BOOK can go on");
        String digits = "0123456789";
        everyByteBehind("", "dwlr");
        everyByteBehind("d", digits);
        everyByteBehind("d1", digits + ":");
        everyByteBehind("d12", digits + ":");
        everyByteBehind("d123", digits + ":");
        everyByteBehind("d1234", ":");
        everyByteBehind("d1:", digits);
        everyByteBehind("d1:1", digits + ";");
        everyByteBehind("d1:12", digits + ";");
        everyByteBehind("d1:123", ";");
        everyByteBehind("d1:1;", "dwlr");
        everyByteBehind("d1:1;w", digits);
        is("d1:1;x", -1005);
        is("xd1:1;", -1000);
        is("d1:1;;", -1005);
        is("d1 :1;", -1002);
        is("d1:1 ;", -1004);
        is("d+1:1;", -1001);
        is("d1:-1;", -1003);
        is("xx", -1000);
        is("d1x1x", -1002);
    }

    private static void everyByteBehind(String text, String goOn) {
        for (int b = 0; b <= 255; b++) {
            boolean goesOn = goOn.indexOf((char) b) >= 0;
            boolean isWhole = goesOn && b == ';';
            int want = goesOn ? -1000 - text.length() - 1 : -1000 - text.length();
            if (isWhole) {
                want = text.equals("d1:123") ? -2000 : 1;
            }
            DUE.is("byte " + b + " behind \"" + text + "\"", bookOf(text + (char) b), want);
        }
    }

    private static void ends() {
        DUE.sentence("(the end, if something lacks): -1000 less the place");
        String two = "d1234:056;r0:399;";
        for (int n = 0; n <= two.length(); n++) {
            int want = n == 10 ? 1 : n == 17 ? 2 : -1000 - n;
            is(two.substring(0, n), want);
        }
        for (int n = 0; n <= 64; n++) {
            int want = -1000 - n;
            if (n > 0 && LONGEST.charAt(n - 1) == ';') {
                want = LONGEST.substring(0, n).split(";").length;
            }
            is(LONGEST.substring(0, n), want);
        }
        DUE.sentence("STATEMENTS, each with \";\" behind");
        is("d0:1", -1004);
        is("d0:1;", 1);
        is("d0:1w0:1;", -1004);
        is("d0:1;w0:1", -1009);
        is("d0:1;w0:1;", 2);
        DUE.sentence("At least one STATEMENT.");
        is("", -1000);
        is(";", -1000);
        is("d0:1;", 1);
    }

    private static void firstKindFirst() {
        DUE.sentence("kind 1 ..; else kind 2");
        is("d0:100;", -2000);
        is("d0:100;x", -1007);
        is("d0:100;d", -1008);
        is("d0:100;d0:1", -1011);
        is("d0:100;d0:1;", -2000);
        is("d0:100", -1006);
        is("d0:1000;", -1006);
        BirdThatDrinks x = twenty();
        DUE.is("no room and a byte", Due.book(x, "d0:1;x"), -1005);
        DUE.is("no room and an end", Due.book(x, "d0:1;d0:1"), -1009);
        DUE.is("no room and none", Due.book(x, ""), -1000);
        DUE.is("no room", Due.book(x, "d0:1;d0:1;"), -2000);
    }

    private static void ranges() {
        DUE.sentence("(a VALUE out of range");
        is("d0:0;", 1);
        is("d0:1;", 1);
        is("d0:98;", 1);
        is("d0:99;", 1);
        is("d0:100;", -2000);
        is("d0:999;", -2000);
        is("w0:0;", 1);
        is("w0:8;", 1);
        is("w0:9;", 1);
        is("w0:10;", -2000);
        is("w0:99;", -2000);
        is("l0:0;", 1);
        is("l0:8;", 1);
        is("l0:9;", 1);
        is("l0:10;", -2000);
        is("l0:100;", -2000);
        is("r0:0;", -2000);
        is("r0:99;", -2000);
        is("r0:099;", -2000);
        is("r0:100;", 1);
        is("r0:101;", 1);
        is("r0:399;", 1);
        is("r0:400;", 1);
        is("r0:401;", -2000);
        is("r0:999;", -2000);
    }

    private static void firstBad() {
        DUE.sentence("the place of the letter of the first STATEMENT that is not as it must be: -2000 less the place");
        is("w0:10;w0:10;w0:10;", -2000);
        is("w0:9;w0:10;w0:10;", -2005);
        is("w0:9;w0:9;w0:10;", -2010);
        is("w0000:009;w0:10;", -2010);
        is("w0:1;w0:1;w0:1;w0:1;w0:1;w0:1;w0:1;w0:1;w0:1;w0:1;w0:1;w000:99;", -2055);
        is("w00:1;w00:1;w00:1;w0:1;w0:1;w0:1;w0:1;w0:1;w0:1;w0:1;w0:1;w0:10;", -2058);
    }

    private static BirdThatDrinks twenty() {
        BirdThatDrinks x = new BirdThatDrinks();
        Due.book(x, LONGEST);
        DUE.is("eight more", Due.book(x, "l0:1;l0:2;l0:3;l0:4;l0:5;l0:6;l0:7;l0:8;"), 8);
        return x;
    }

    private static void room() {
        DUE.sentence("(20 at most");
        for (int has = 17; has <= 20; has++) {
            for (int more = 1; more <= 4; more++) {
                BirdThatDrinks x = new BirdThatDrinks();
                Due.book(x, LONGEST);
                Due.book(x, "l0:1;l0:1;l0:1;l0:1;l0:1;l0:1;l0:1;l0:1;".substring(0, 5 * (has - 12)));
                DUE.is("count(1)", x.count(1), has);
                int want = has + more <= 20 ? more : -2000 - 5 * (20 - has);
                DUE.is(more + " to " + has, Due.book(x, "l0:9;l0:9;l0:9;l0:9;".substring(0, 5 * more)), want);
                DUE.is("count(1)", x.count(1), want > 0 ? has + more : has);
                DUE.is("air(2)", x.air(2), want > 0 ? 9 : 1);
            }
        }
        DUE.sentence("no room for more");
        BirdThatDrinks x = twenty();
        DUE.is("count(1)", x.count(1), 20);
        DUE.is("one more", Due.book(x, "l0:1;"), -2000);
        BirdThatDrinks y = new BirdThatDrinks();
        Due.book(y, LONGEST);
        DUE.is("a VALUE ahead of where the room ends", Due.book(y, "l0:1;l0:2;l0:3;l0:4;l0:5;l0:6;l0:7;l0:88;l0:9;"),
            -2035);
        DUE.is("a VALUE where the room ends", Due.book(y, "l0:1;l0:2;l0:3;l0:4;l0:5;l0:6;l0:7;l0:8;l0:99;"), -2040);
        DUE.is("a VALUE behind it", Due.book(y, "l0:1;l0:2;l0:3;l0:4;l0:5;l0:6;l0:7;l0:8;l0:9;l0:99;"), -2040);
        DUE.is("count(1)", y.count(1), 12);
    }

    private static void allOrNothing() {
        DUE.sentence("Without FAULT all of it comes, with one nothing.");
        String[] faults = {"d0:7;w0:7;l0:7;r0:107;x", "d0:7;w0:7;l0:7;r0:107", "d0:7;w0:7;l0:7;r0:99;",
            "d0:7;w0:7;l0:7;r0:107;d0:100;"};
        for (String text : faults) {
            BirdThatDrinks x = new BirdThatDrinks();
            Due.book(x, "d0:1;");
            DUE.isTrue("a FAULT of " + text, Due.book(x, text) < 0);
            DUE.is("count(1)", x.count(1), 1);
            int[] air = {1, 1, 0, 200};
            for (int i = 0; i <= 3; i++) {
                DUE.is("air(" + i + ")", x.air(i), air[i]);
            }
        }
        BirdThatDrinks y = new BirdThatDrinks();
        Due.book(y, "l0:3;");
        DUE.is("a FAULT in the fourth", Due.book(y, "d0:7;w5:7;l9:7;r0:99;"), -2015);
        DUE.is("a BOOK more behind it", Due.book(y, "w0:5;d2:66;"), 2);
        DUE.is("count(1)", y.count(1), 3);
        int[][] airs = {{50, 5, 3, 200}, {50, 5, 3, 200}, {66, 5, 3, 200}, {66, 5, 3, 200}};
        for (int time = 0; time < 12; time++) {
            for (int i = 0; i <= 3; i++) {
                DUE.is("air(" + i + ") at " + time, y.air(i), airs[Math.min(3, time)][i]);
            }
            y.run(1);
        }
        BirdThatDrinks x = new BirdThatDrinks();
        Due.book(x, "d0:1;");
        DUE.is("without FAULT", Due.book(x, "d0:7;w0:7;l0:7;r0:107;"), 4);
        DUE.is("count(1)", x.count(1), 5);
        int[] air = {7, 7, 7, 107};
        for (int i = 0; i <= 3; i++) {
            DUE.is("air(" + i + ")", x.air(i), air[i]);
        }
    }

    private static void tapeHasNone() {
        DUE.sentence("and has none (by a FAULT, too): how many STATEMENTS; the FAULT (nothing is counted).");
        for (String text : new String[] {"", "x", "d0:1", "d0:100;", "d0:1;", LONGEST}) {
            BirdThatDrinks x = new BirdThatDrinks();
            Due.book(x, text);
            DUE.is("count(3) behind \"" + text + "\"", x.count(3), 0);
            for (int i = 11; i <= 16; i++) {
                DUE.is("count(" + i + ")", x.count(i), 0);
            }
            DUE.is("feed(1, 'w')", x.feed(1, 'w'), 1);
            DUE.is("the TAPE begins anew", Due.book(x, "0:4;"), 1);
            DUE.is("air(1)", x.air(1), 4);
        }
    }

    private static void fromThatTenthOn() {
        DUE.sentence("from that TENTH on it is so");
        for (int tenth : new int[] {0, 1, 2, 9, 10, 99, 100, 999, 1000, 9998, 9999}) {
            BirdThatDrinks x = new BirdThatDrinks();
            Due.book(x, "r" + tenth + ":333;");
            for (int left = tenth - 1; left > 0; left -= 3000) {
                x.run(Math.min(3000, left));
            }
            if (tenth > 0) {
                DUE.is("air(3) one ahead of " + tenth, x.air(3), 200);
                x.run(1);
            }
            DUE.is("air(3) at " + tenth, x.air(3), 333);
            x.run(1);
            DUE.is("air(3) one behind " + tenth, x.air(3), 333);
            x.run(3000);
            DUE.is("air(3) long behind " + tenth, x.air(3), 333);
        }
    }

    private static void latestNotBehind() {
        DUE.sentence("of several for one thing the latest TENTH not behind now");
        for (String text : new String[] {"d3:30;d5:50;d8:80;", "d8:80;d5:50;d3:30;", "d5:50;d3:30;d8:80;"}) {
            BirdThatDrinks x = new BirdThatDrinks();
            x.set(Poised.DRY, 11);
            Due.book(x, text + "w4:4;");
            int[] dry = {11, 11, 11, 30, 30, 50, 50, 50, 80, 80};
            for (int i = 0; i < dry.length; i++) {
                DUE.is(text + " at " + i, x.air(0), dry[i]);
                DUE.is("another thing at " + i, x.air(1), i < 4 ? 1 : 4);
                x.run(1);
            }
        }
    }

    private static void latestTold() {
        DUE.sentence("of alike the latest told");
        BirdThatDrinks x = new BirdThatDrinks();
        Due.book(x, "d0:1;d0:2;w0:9;d0:3;");
        DUE.is("in one BOOK", x.air(0), 3);
        Due.book(x, "d0:4;");
        DUE.is("in a BOOK more", x.air(0), 4);
        Due.book(x, "d1:5;");
        DUE.is("a later TENTH, not yet", x.air(0), 4);
        x.run(1);
        DUE.is("a later TENTH", x.air(0), 5);
        Due.book(x, "d0:6;");
        DUE.is("an earlier TENTH, told later", x.air(0), 5);
        x.set(Poised.DRY, 7);
        DUE.is("a setting, told later", x.air(0), 5);
    }
}
