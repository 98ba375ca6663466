/** "Terms" on settings, GLASS and WET, and promises 1, 4 to 10: the least and greatest, one below, one above. */
public final class EdgesOfSettingsTest {
    private static final Due DUE = new Due("EdgesOfSettingsTest");
    // As the document tells them: least, greatest, first.
    private static final String[] SETTINGS = {
        "FELT (10 .. 99; 40)", "PEG (1 .. 99; 50)", "STUFF (10 .. 99; 60)", "SORT of stuff (1 .. 9; 3)",
        "CRACK (0 .. 99; 0)", "LIFT (0 .. 9; 0)", "SIZE (1 .. 4; 1)", "BLACK (0, 1; 0)", "DRY (0 .. 99; 50)",
        "WIND (0 .. 9; 1)", "LAMP (0 .. 9; 0)", "ROOM (100 .. 400; 200)", "BELL (0, 1; 0)", "SPIRIT (0, 1; 0)",
        "REACH (0 .. 999; 10)"};

    public static void main(String[] args) {
        for (int what = 0; what < SETTINGS.length; what++) {
            setting(what);
        }
        what();
        air();
        glass();
        wet();
        run();
        now();
        full();
        calls();
        DUE.end();
    }

    private static int[] numbersOf(String told) {
        String[] parts = told.substring(told.indexOf('(') + 1, told.indexOf(')')).split(" \\.\\. |, |; ");
        return new int[] {Integer.parseInt(parts[0]), Integer.parseInt(parts[1]), Integer.parseInt(parts[2])};
    }

    private static void setting(int what) {
        DUE.sentence(SETTINGS[what]);
        int[] numbers = numbersOf(SETTINGS[what]);
        int least = numbers[0];
        int greatest = numbers[1];
        BirdThatDrinks x = new BirdThatDrinks();
        DUE.is("set(least)", x.set(what, least), numbers[2]);
        DUE.is("set(below)", x.set(what, least - 1), -4);
        DUE.is("set(one above the least)", x.set(what, least + 1), least);
        DUE.is("set(one below the greatest)", x.set(what, greatest - 1), least + 1);
        DUE.is("set(greatest)", x.set(what, greatest), greatest - 1);
        DUE.is("set(above)", x.set(what, greatest + 1), -6);
        DUE.is("set(first)", x.set(what, numbers[2]), greatest);
        DUE.is("set(first again)", x.set(what, numbers[2]), numbers[2]);
        for (int other = 0; other < SETTINGS.length; other++) {
            int first = numbersOf(SETTINGS[other])[2];
            DUE.is("set(" + other + ") is as at first", x.set(other, first), first);
        }
    }

    private static void what() {
        DUE.sentence("set: A setting: what it was. -2");
        BirdThatDrinks x = new BirdThatDrinks();
        DUE.is("set(-1, 40)", x.set(-1, 40), -2);
        DUE.is("set(0, 40)", x.set(0, 40), 40);
        DUE.is("set(14, 10)", x.set(14, 10), 10);
        DUE.is("set(15, 10)", x.set(15, 10), -2);
    }

    private static void air() {
        DUE.sentence("air: 0 DRY, 1 WIND, 2 LAMP, 3 ROOM. -2.");
        BirdThatDrinks x = new BirdThatDrinks();
        for (int i = 0; i <= 3; i++) {
            int[] numbers = numbersOf(SETTINGS[8 + i]);
            DUE.is("air(" + i + ")", x.air(i), numbers[2]);
            x.set(8 + i, numbers[0]);
            DUE.is("air(" + i + "), least", x.air(i), numbers[0]);
            x.set(8 + i, numbers[1]);
            DUE.is("air(" + i + "), greatest", x.air(i), numbers[1]);
        }
        DUE.is("air(-1)", x.air(-1), -2);
        DUE.is("air(4)", x.air(4), -2);
    }

    private static void glass() {
        DUE.sentence("GLASS (0 .. 9999; 500) is what water there is.");
        BirdThatDrinks x = new BirdThatDrinks();
        DUE.is("now(11)", x.now(11), 500);
        DUE.is("glass(0)", x.glass(0), 500);
        DUE.is("glass(-1)", x.glass(-1), -4);
        DUE.is("now(11)", x.now(11), 0);
        DUE.is("glass(1)", x.glass(1), 0);
        DUE.is("glass(9998)", x.glass(9998), 1);
        DUE.is("glass(9999)", x.glass(9999), 9998);
        DUE.is("glass(10000)", x.glass(10000), -6);
        DUE.is("now(11)", x.now(11), 9999);
    }

    private static void wet() {
        DUE.sentence("WET becomes v (0 .. 9900; 100 FELT at most): what it was.");
        for (int felt : new int[] {10, 11, 40, 98, 99}) {
            BirdThatDrinks x = new BirdThatDrinks();
            x.set(Poised.FELT, felt);
            int most = 100 * felt;
            DUE.is("wet(100 FELT less 1)", x.wet(most - 1), 0);
            DUE.is("wet(100 FELT)", x.wet(most), most - 1);
            DUE.is("wet(1)", x.wet(1), most);
            DUE.is("wet(100 FELT and 1)", x.wet(most + 1), most < 9900 ? 1 : -6);
            DUE.is("wet(9900)", x.wet(9900), most < 9900 ? most : 1);
            DUE.is("now(2)", x.now(2), most);
            DUE.is("wet(9901)", x.wet(9901), -6);
            DUE.is("wet(-1)", x.wet(-1), -4);
            DUE.is("wet(0)", x.wet(0), most);
            DUE.is("now(2)", x.now(2), 0);
        }
    }

    private static void run() {
        DUE.sentence("RUN of n TENTHS (1 .. 3000).");
        BirdThatDrinks x = new BirdThatDrinks();
        DUE.is("run(0)", x.run(0), -4);
        DUE.is("TIME", x.now(6), 0);
        DUE.is("run(1)", x.run(1), 0);
        DUE.is("TIME", x.now(6), 1);
        DUE.is("run(2)", x.run(2), 0);
        DUE.is("TIME", x.now(6), 3);
        DUE.is("run(3001)", x.run(3001), -6);
        DUE.is("TIME", x.now(6), 3);
        DUE.is("run(3000)", x.run(3000), 0);
        DUE.is("TIME", x.now(6), 3003);
        DUE.is("run(2999)", x.run(2999), 0);
        DUE.is("TIME", x.now(6), 6002);
        DUE.sentence("run: all NODS.");
        Poised p = Poised.tipping(10);
        DUE.is("run(4)", p.x.run(4), 0);
        DUE.is("run(1), he NODS", p.x.run(1), 1);
        DUE.is("run(1), he does not", p.x.run(1), 1);
    }

    private static void now() {
        DUE.sentence("He stands, dry.");
        BirdThatDrinks x = new BirdThatDrinks();
        int[] first = {200, 200, 0, 0, 0, 0, 0, 0, 0, 0, 0, 500, 0};
        for (int i = 0; i < first.length; i++) {
            DUE.is("now(" + i + ")", x.now(i), first[i]);
        }
        for (int i = 0; i <= 3; i++) {
            DUE.is("count(" + i + ")", x.count(i), 0);
        }
        for (int i = 11; i <= 16; i++) {
            DUE.is("count(" + i + ")", x.count(i), 0);
        }
        DUE.is("dot(0)", x.dot(0), -9);
        DUE.is("judge(0): no ROW, no GAPS", x.judge(0), -9);
        DUE.is("on(): no image", x.on(), -3);
        DUE.sentence("Of now() REFUSALS are 1000000000 less them (-1 as 1000000001).");
        DUE.is("now(-1)", x.now(-1), 1000000002);
        DUE.is("now(13)", x.now(13), 1000000002);
        DUE.is("now(12)", x.now(12), 0);
        DUE.is("count(12)", x.count(12), 2);
    }

    private static void full() {
        DUE.sentence("FULL is STUFF times PEG and 10 times LIFT.");
        for (int stuff : new int[] {10, 11, 98, 99}) {
            for (int peg : new int[] {1, 2, 98, 99}) {
                for (int lift : new int[] {0, 1, 8, 9}) {
                    BirdThatDrinks x = new BirdThatDrinks();
                    x.set(Poised.STUFF, stuff);
                    x.set(Poised.PEG, peg);
                    x.set(Poised.LIFT, lift);
                    DUE.is("full() of " + stuff + ", " + peg + ", " + lift, x.full(), stuff * peg + 10 * lift);
                }
            }
        }
    }

    private static void calls() {
        DUE.sentence("An object is used for at most 512 calls after it has been made");
        BirdThatDrinks x = new BirdThatDrinks();
        x.set(Poised.LAMP, 9);
        for (int i = 2; i < 511; i++) {
            x.run(3000);
        }
        int nods = x.now(7);
        DUE.is("the 512th: TIME", x.now(6), 509 * 3000);
        DUE.isTrue("NODS", nods > 10000);
        BirdThatDrinks y = new BirdThatDrinks();
        for (int i = 1; i < 512; i++) {
            y.air(4);
        }
        DUE.is("the 512th: REFUSALS", y.count(12), 511);
        BirdThatDrinks z = new BirdThatDrinks();
        z.glass(9999);
        z.set(Poised.DRY, 99);
        z.set(Poised.WIND, 9);
        z.set(Poised.FELT, 99);
        for (int i = 6; i < 512; i += 2) {
            z.wet(9900);
            z.run(100);
        }
        DUE.isTrue("near the 512th: GONE is as much as can be", z.now(5) > 250 * 9900);
    }
}
