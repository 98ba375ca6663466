import java.util.ArrayList;
import java.util.List;
import java.util.function.Supplier;

/** The STATES and the DRUM in "Terms": when one STATE turns into another, one below, at and one above. */
public final class EdgesOfStatesTest {
    private static final Due DUE = new Due("EdgesOfStatesTest");

    public static void main(String[] args) {
        pressByTwo();
        heldToNought();
        heldToStuff();
        fullOrMore();
        fullOfOthers();
        hangs();
        fullAheadOfHanging();
        cold();
        coldIfPress();
        coldOrMore();
        dried();
        hangingAheadOfStopped();
        becomeRising();
        belowStuff();
        swingingIsNoOther();
        coldInSwinging();
        swing();
        swingEnds();
        fifthTenth();
        upInTipping();
        drum();
        glass();
        wetMore();
        quarter();
        timesFive();
        since();
        DUE.end();
    }

    private static void pressByTwo() {
        DUE.sentence("RISING: UP is PRESS by 2 more");
        for (int press = -45; press <= 54; press++) {
            Poised p = new Poised(60).raised(200);
            p.tenth(press);
            int want = press < 0 ? 200 - -press / 2 : 200 + press / 2;
            DUE.is("UP of PRESS " + press, p.up(), want);
        }
        int[] presses = {-3, -2, -1, 0, 1, 2, 3};
        int[] ups = {199, 199, 200, 200, 200, 201, 201};
        for (int i = 0; i < presses.length; i++) {
            Poised p = new Poised(60).raised(200);
            p.tenth(presses[i]);
            DUE.is("UP of PRESS " + presses[i], p.up(), ups[i]);
        }
    }

    private static void heldToNought() {
        DUE.sentence("(held to 0 ..");
        for (int up : new int[] {0, 1, 4, 5, 6, 22}) {
            for (int less = 0; less <= 22; less++) {
                Poised p = new Poised(60).raised(up);
                p.tenth(-2 * less);
                DUE.is("UP " + up + " less " + less, p.up(), Math.max(0, up - less));
                p.tenth(8);
                DUE.is("and 4 more", p.up(), Math.max(0, up - less) + 4);
            }
        }
    }

    private static void heldToStuff() {
        DUE.sentence(".. 100 STUFF)");
        for (int stuff : new int[] {10, 11}) {
            for (int more = 8; more <= 12; more++) {
                Poised p = new Poised(stuff).raised(100 * stuff - 10);
                DUE.is("KIND", p.tenth(2 * more), more < 10 ? Poised.RISING : Poised.HANGING);
                DUE.is("UP", p.up(), 100 * stuff - 10 + Math.min(10, more));
            }
        }
        Poised p = new Poised(60).raised(1500);
        p.with(Poised.STUFF, 10).tenth(1);
        DUE.is("UP with less STUFF", p.up(), 1000);
    }

    private static void fullOrMore() {
        DUE.sentence("Then: if UP is FULL or more: TIPPING.");
        for (int peg : new int[] {1, 50, 98}) {
            for (int lift : new int[] {0, 1, 2}) {
                int full = 10 * peg + 10 * lift;
                for (int up = full - 2; up <= Math.min(full + 2, 999); up++) {
                    Poised p = new Poised(10).raised(up).with(Poised.PEG, peg).with(Poised.LIFT, lift);
                    DUE.is("full()", p.x.full(), full);
                    DUE.is("UP " + up + " of " + full, p.tenth(1), up >= full ? Poised.TIPPING : Poised.RISING);
                    DUE.is("UP", p.up(), up);
                    DUE.is("SINCE", p.x.now(9), up >= full ? 0 : p.x.now(6));
                }
            }
        }
        for (int more = -1; more <= 1; more++) {
            Poised p = new Poised(10).raised(480).with(Poised.PEG, 50).with(Poised.LIFT, 0);
            DUE.is("UP comes to FULL and " + more, p.tenth(40 + 2 * more), more < 0 ? Poised.RISING : Poised.TIPPING);
        }
    }

    private static List<Supplier<Poised>> others(int up) {
        List<Supplier<Poised>> others = new ArrayList<>();
        others.add(() -> Poised.swinging().raised(up));
        others.add(() -> Poised.stopped(10, up));
        others.add(() -> Poised.dried(10, up));
        others.add(() -> {
            Poised p = Poised.hanging();
            while (p.up() - 22 >= up) {
                p.tenth(-44);
            }
            p.tenth(2 * (up - p.up()));
            return p;
        });
        return others;
    }

    private static void fullOfOthers() {
        DUE.sentence("SWINGING, HANGING, STOPPED, DRIED: UP, COLD and TIPPING as RISING");
        int[] kinds = {Poised.SWINGING, Poised.STOPPED, Poised.DRIED, Poised.HANGING};
        for (int i = 0; i < kinds.length; i++) {
            for (int up = 108; up <= 112; up++) {
                Poised p = others(up).get(i).get();
                DUE.is("KIND", p.kind(), kinds[i]);
                DUE.is("UP", p.up(), up);
                p.with(Poised.PEG, 11).with(Poised.LIFT, 0);
                DUE.is("UP " + up + " of 110", p.tenth(0), up >= 110 ? Poised.TIPPING : kinds[i]);
                DUE.isTrue("SWING (0 in others)", p.x.now(10) > 0 == (p.kind() == Poised.SWINGING));
                p = others(up).get(i).get().with(Poised.PEG, 11).with(Poised.LIFT, 0);
                int more = Math.max(0, 110 - up);
                DUE.is("UP comes to FULL", p.tenth(2 * more), Poised.TIPPING);
                p = others(up).get(i).get();
                p.tenth(-3);
                DUE.is("UP is PRESS by 2 more", p.up(), up - 1);
            }
        }
    }

    private static void hangs() {
        DUE.sentence("Else, if UP is 100 STUFF: HANGING.");
        for (int up = 998; up <= 1000; up++) {
            Poised p = new Poised(10).raised(980);
            DUE.is("UP " + up, p.tenth(2 * (up - 980)), up == 1000 ? Poised.HANGING : Poised.RISING);
            DUE.is("SINCE", p.x.now(9), up == 1000 ? 0 : p.x.now(6));
        }
    }

    private static void fullAheadOfHanging() {
        DUE.sentence("if UP is FULL or more: TIPPING. Else, if UP is 100 STUFF");
        // PEG 99 and LIFT: FULL is 990, 1000, 1010.
        for (int lift = 0; lift <= 2; lift++) {
            Poised p = new Poised(10).raised(980).with(Poised.LIFT, lift);
            DUE.is("UP 1000 of " + p.x.full(), p.tenth(40), lift < 2 ? Poised.TIPPING : Poised.HANGING);
        }
    }

    private static void cold() {
        DUE.sentence("Else, if COLD is 50 or more: ..; else STOPPED.");
        for (int n = 48; n <= 51; n++) {
            Poised p = new Poised(60);
            DUE.is("COLD " + n, p.tenths(n, 0), n < 50 ? Poised.RISING : Poised.STOPPED);
            DUE.is("SINCE", p.x.now(9), n < 50 ? n + 2 : n - 50);
        }
        Poised p = new Poised(60);
        p.tenths(49, 0);
        p.tenth(1);
        DUE.is("COLD is 0 again", p.tenths(49, 0), Poised.RISING);
        DUE.is("COLD 50", p.tenth(0), Poised.STOPPED);
    }

    private static void coldIfPress() {
        DUE.sentence("COLD (0 at first) is 1 more, if PRESS is 0 or less, else 0.");
        for (int press = -2; press <= 2; press++) {
            Poised p = new Poised(60);
            DUE.is("50 TENTHS of PRESS " + press, p.tenths(50, press), press <= 0 ? Poised.STOPPED : Poised.RISING);
            p = new Poised(60);
            p.tenths(49, 0);
            p.tenth(press);
            DUE.is("PRESS " + press + " in the 50th", p.kind(), press <= 0 ? Poised.STOPPED : Poised.RISING);
            p = new Poised(60);
            p.tenths(30, 0);
            p.tenth(press);
            DUE.is("PRESS " + press + " between", p.tenths(19, 0), press <= 0 ? Poised.STOPPED : Poised.RISING);
        }
        BirdThatDrinks x = new BirdThatDrinks();
        x.run(49);
        DUE.is("0 at first, 49", x.now(8), Poised.RISING);
        x.run(1);
        DUE.is("0 at first, 50", x.now(8), Poised.STOPPED);
    }

    private static void coldOrMore() {
        DUE.sentence("COLD is 50 or more");
        // He tips while it is cold, by a lower FULL; COLD goes on in SWINGING, 27 TENTHS, where none stops.
        for (int cold : new int[] {1, 2, 21, 22, 23, 24, 48}) {
            Poised p = new Poised(10).raised(66);
            p.tenths(cold - 1, 0);
            p.with(Poised.PEG, 1).with(Poised.LIFT, 0);
            DUE.is("TIPPING", p.tenth(0), Poised.TIPPING);
            p.with(Poised.PEG, 99).with(Poised.LIFT, 9);
            DUE.is("SWINGING", p.tenths(6, 0), Poised.SWINGING);
            DUE.is("COLD does not stop it", p.tenths(26, 0), Poised.SWINGING);
            DUE.is("SWING ends", p.tenth(0), Poised.RISING);
            int left = Math.max(1, 23 - cold);
            DUE.is("COLD less than 50", left > 1 ? p.tenths(left - 1, 0) : Poised.RISING, Poised.RISING);
            DUE.is("COLD " + Math.max(50, cold + 28), p.tenth(0), Poised.STOPPED);
        }
    }

    private static void dried() {
        DUE.sentence("DRIED, if WET is 0 and GLASS below REACH");
        for (int reach : new int[] {0, 1, 10, 999}) {
            for (int glass = Math.max(0, reach - 2); glass <= reach + 1; glass++) {
                for (int wet = 0; wet <= 1; wet++) {
                    Poised p = new Poised(60).with(Poised.REACH, reach);
                    p.tenths(49, 0);
                    p.x.glass(glass);
                    p.x.wet(wet);
                    DUE.is("GLASS " + glass + ", REACH " + reach + ", WET " + wet, p.tenth(0),
                        wet == 0 && glass < reach ? Poised.DRIED : Poised.STOPPED);
                }
            }
        }
        for (int wet = 0; wet <= 3; wet++) {
            Poised p = new Poised(60);
            p.tenths(49, 0);
            p.x.glass(0);
            p.x.wet(wet);
            p.with(Poised.DRY, 8).with(Poised.WIND, 0);
            DUE.is("WET " + wet + " less OFF 2 in that TENTH", p.tenth(0), wet <= 2 ? Poised.DRIED : Poised.STOPPED);
        }
        Poised p = new Poised(60);
        p.tenths(50, 0);
        p.x.glass(0);
        DUE.is("STOPPED is not DRIED later", p.tenths(60, 0), Poised.STOPPED);
        Poised q = Poised.dried(60, 0);
        q.x.glass(500);
        q.x.wet(500);
        DUE.is("DRIED is not STOPPED later", q.tenths(60, 0), Poised.DRIED);
    }

    private static void hangingAheadOfStopped() {
        DUE.sentence("Else, if UP is 100 STUFF: HANGING. Else, if COLD is 50 or more");
        for (int up = 998; up <= 1001; up++) {
            Poised p = new Poised(20).raised(up);
            p.tenths(49, 0);
            p.with(Poised.STUFF, 10);
            DUE.is("COLD 50, UP " + up, p.tenth(0), up >= 1000 ? Poised.HANGING : Poised.STOPPED);
        }
    }

    private static void becomeRising() {
        DUE.sentence("else HANGING, STOPPED, DRIED become RISING, if PRESS is above 0");
        for (int press = -2; press <= 3; press++) {
            Poised p = Poised.stopped(60, 500);
            DUE.is("STOPPED, PRESS " + press, p.tenth(press), press > 0 ? Poised.RISING : Poised.STOPPED);
            DUE.is("SINCE", p.x.now(9), press > 0 ? 0 : 1);
            p = Poised.dried(60, 500);
            DUE.is("DRIED, PRESS " + press, p.tenth(press), press > 0 ? Poised.RISING : Poised.DRIED);
            p = Poised.hanging();
            p.tenth(-8);
            DUE.is("HANGING", p.kind(), Poised.HANGING);
            DUE.is("HANGING, PRESS " + press, p.tenth(press), press > 0 ? Poised.RISING : Poised.HANGING);
            DUE.is("UP", p.up(), 996 + press / 2);
        }
    }

    private static void belowStuff() {
        DUE.sentence("and UP below 100 STUFF");
        for (int up = 998; up <= 1001; up++) {
            boolean isBelow = up < 1000;
            Poised p = Poised.stopped(20, up).with(Poised.STUFF, 10);
            DUE.is("STOPPED, UP " + up, p.tenth(1), isBelow ? Poised.RISING : Poised.STOPPED);
            p = Poised.dried(20, up).with(Poised.STUFF, 10);
            DUE.is("DRIED, UP " + up, p.tenth(1), isBelow ? Poised.RISING : Poised.DRIED);
            p = Poised.hanging();
            p.tenth(-4);
            DUE.is("HANGING, UP 998", p.up(), 998);
            DUE.is("HANGING, UP " + up, p.tenth(Math.max(1, 2 * (up - 998))),
                isBelow ? Poised.RISING : Poised.HANGING);
            DUE.is("UP", p.up(), Math.min(up, 1000));
        }
        DUE.is("HANGING stays as he hangs", Poised.hanging().tenths(100, 54), Poised.HANGING);
    }

    private static void swingingIsNoOther() {
        DUE.sentence("in SWINGING each third TENTH ..: RISING");
        Poised p = Poised.swinging();
        DUE.is("PRESS above 0 ends no SWINGING", p.tenth(1), Poised.SWINGING);
        Poised q = new Poised(99).raised(500).with(Poised.PEG, 1).with(Poised.LIFT, 0);
        q.tenths(7, 0);
        DUE.is("SWINGING", q.kind(), Poised.SWINGING);
        q.with(Poised.PEG, 99).with(Poised.LIFT, 9);
        DUE.is("still", q.tenths(25, 54), Poised.SWINGING);
        DUE.isTrue("UP is 1000 or more", q.up() >= 1000);
        q.with(Poised.STUFF, 10);
        DUE.is("UP of 100 STUFF is no HANGING in SWINGING", q.tenth(1), Poised.SWINGING);
        DUE.is("UP", q.up(), 1000);
        DUE.is("nor as SWING ends", q.tenth(1), Poised.RISING);
        DUE.is("but behind it", q.tenth(1), Poised.HANGING);
    }

    private static void coldInSwinging() {
        DUE.sentence("SWINGING ..: UP, COLD .. as RISING");
        for (int cold = 1; cold <= 27; cold++) {
            // The last so many TENTHS of SWINGING are cold.
            Poised p = Poised.swinging();
            if (cold < 27) {
                p.tenths(27 - cold, 1);
            }
            DUE.is("RISING", p.tenths(cold, 0), Poised.RISING);
            DUE.is("COLD 49", p.tenths(49 - cold, 0), Poised.RISING);
            DUE.is("COLD 50", p.tenth(0), Poised.STOPPED);
        }
        for (int press = 0; press <= 1; press++) {
            Poised p = Poised.stopped(60, 0);
            DUE.is("STOPPED", p.tenths(10, 0), Poised.STOPPED);
            p.tenth(1);
            DUE.is("COLD is 0 as he is RISING again", p.tenths(49, 0), Poised.RISING);
            DUE.is("PRESS " + press, p.tenth(press), press == 0 ? Poised.STOPPED : Poised.RISING);
        }
    }

    private static void swing() {
        DUE.sentence("each third TENTH SWING (88 as it begins) becomes SWING by 8, cut, times 7");
        int[] swings = {88, 77, 63, 49, 42, 35, 28, 21, 14};
        Poised p = Poised.swinging();
        for (int i = 0; i < 27; i++) {
            DUE.is("SWINGING, TENTH " + i, p.kind(), Poised.SWINGING);
            DUE.is("SWING, TENTH " + i, p.x.now(10), swings[i / 3]);
            DUE.is("SINCE", p.x.now(9), i);
            p.tenth(1);
        }
    }

    private static void swingEnds() {
        DUE.sentence("if it is below 10 then: RISING");
        for (int n = 25; n <= 28; n++) {
            Poised p = Poised.swinging();
            DUE.is("TENTH " + n + " of SWINGING", p.tenths(n, 1), n < 27 ? Poised.SWINGING : Poised.RISING);
            DUE.is("SWING (0 in others)", p.x.now(10), n < 27 ? 14 : 0);
            DUE.is("SINCE", p.x.now(9), n < 27 ? n : n - 27);
        }
    }

    private static void fifthTenth() {
        DUE.sentence("TIPPING: in the fifth TENTH of it he NODS: NODS 1 more; a DOT (TIME) is on the drum; then "
            + "EMPTYING.");
        for (int n = 3; n <= 6; n++) {
            Poised p = Poised.tipping(500);
            int time = p.x.now(6);
            int kind = p.tenths(n, 1);
            DUE.is("TENTH " + n + " of TIPPING", kind, n < 5 ? Poised.TIPPING : Poised.EMPTYING);
            DUE.is("NODS", p.x.now(7), n < 5 ? 0 : 1);
            DUE.is("DOTS", p.x.count(0), n < 5 ? 0 : 1);
            DUE.is("DOT", p.x.dot(0), n < 5 ? -9 : time + 4);
            DUE.is("SINCE", p.x.now(9), n < 5 ? n : n - 5);
        }
        Poised cold = Poised.tipping(500);
        DUE.is("PRESS below 0 ends no TIPPING", cold.tenths(4, -45), Poised.TIPPING);
        DUE.is("nor a higher FULL", cold.with(Poised.PEG, 99).tenth(-45), Poised.EMPTYING);
    }

    private static void upInTipping() {
        DUE.sentence("RISING: UP is PRESS by 2 more (and not in TIPPING, EMPTYING)");
        for (int press : new int[] {-45, 0, 54}) {
            Poised p = Poised.tipping(400);
            p.tenths(5, press);
            DUE.is("UP behind TIPPING", p.up(), 400);
            p.tenth(press);
            DUE.is("UP in EMPTYING", p.up(), 299);
        }
    }

    private static void drum() {
        DUE.sentence("(60 at most, the first 60)");
        Poised p = new Poised(10).with(Poised.PEG, 1).with(Poised.LIFT, 0);
        p.x.glass(9999);
        p.tenths(7, 20);
        p.press(6);
        for (int nods = 1; nods <= 63; nods++) {
            DUE.is("NODS", p.x.now(7), nods);
            DUE.is("DOTS", p.x.count(0), Math.min(60, nods));
            DUE.is("the last DOT", p.x.dot(Math.min(59, nods - 1)), 7 * Math.min(60, nods));
            DUE.is("none behind it", p.x.dot(Math.min(60, nods)), -9);
            p.x.run(7);
        }
        DUE.is("the first DOT", p.x.dot(0), 7);
    }

    private static void glass() {
        DUE.sentence("if GLASS is REACH or more and 5 or more: GLASS 5 less");
        for (int reach : new int[] {0, 1, 4, 5, 6, 10, 998, 999}) {
            for (int glass : new int[] {0, 1, 3, 4, 5, 6, 7, 9, 10, 11, 997, 998, 999, 1000, 9999}) {
                Poised p = Poised.tipping(10).with(Poised.REACH, reach);
                p.x.glass(glass);
                p.tenths(5, 1);
                boolean drinks = glass >= reach && glass >= 5;
                DUE.is("GLASS " + glass + " with REACH " + reach, p.x.now(11), drinks ? glass - 5 : glass);
                DUE.is("WET with GLASS " + glass + " and REACH " + reach, p.x.now(2), drinks ? 500 : 0);
                DUE.is("EMPTYING", p.kind(), Poised.EMPTYING);
                DUE.is("NODS", p.x.now(7), 1);
            }
        }
    }

    private static void wetMore() {
        DUE.sentence("WET 500 more (100 FELT at most)");
        for (int felt : new int[] {10, 11, 99}) {
            for (int less : new int[] {0, 1, 499, 500, 501, 1000}) {
                Poised p = Poised.tipping(10).with(Poised.FELT, felt);
                int wet = 100 * felt - less;
                p.x.wet(wet);
                p.tenths(5, 1);
                DUE.is("WET " + wet + " and 500 with FELT " + felt, p.x.now(2), Math.min(100 * felt, wet + 500));
                DUE.is("GLASS", p.x.now(11), 495);
            }
        }
    }

    private static void quarter() {
        DUE.sentence("EMPTYING: UP is a quarter less, and 1");
        for (int up : new int[] {10, 11, 12, 13, 15, 16, 17, 99, 100, 101, 497, 498, 499, 500}) {
            Poised p = Poised.emptying(up);
            p.tenth(1);
            int quarters = 0;
            while (4 * (quarters + 1) <= up) {
                quarters++;
            }
            DUE.is("UP " + up, p.up(), up - quarters - 1);
        }
    }

    private static void timesFive() {
        DUE.sentence("when it is STUFF times 5 or less: SWINGING");
        int[] ups = {10, 64, 65, 66, 67, 68, 69, 70, 71};
        int[] next = {7, 47, 48, 49, 50, 50, 51, 52, 53};
        for (int i = 0; i < ups.length; i++) {
            Poised p = Poised.emptying(ups[i]);
            DUE.is("UP " + ups[i] + ", KIND", p.tenth(1), next[i] <= 50 ? Poised.SWINGING : Poised.EMPTYING);
            DUE.is("UP", p.up(), next[i]);
            DUE.is("SINCE", p.x.now(9), next[i] <= 50 ? 0 : 1);
            DUE.is("SWING", p.x.now(10), next[i] <= 50 ? 88 : 0);
        }
        Poised p = Poised.emptying(80);
        DUE.is("UP 59 of STUFF 11", p.with(Poised.STUFF, 11).tenth(1), Poised.EMPTYING);
        Poised q = Poised.emptying(80);
        DUE.is("UP 59 of STUFF 12", q.with(Poised.STUFF, 12).tenth(1), Poised.SWINGING);
    }

    private static void since() {
        DUE.sentence("a KIND of STATE, SINCE (TENTHS in it)");
        Poised p = new Poised(10).raised(500);
        int before = p.x.now(9);
        DUE.is("SINCE is TIME in the first STATE", before, p.x.now(6));
        p.tenth(1);
        DUE.is("1 more", p.x.now(9), before + 1);
        p.with(Poised.PEG, 50).with(Poised.LIFT, 0).tenth(1);
        int[] kinds = {2, 2, 2, 2, 2, 3, 3};
        int[] since = {0, 1, 2, 3, 4, 0, 1};
        for (int i = 0; i < kinds.length; i++) {
            DUE.is("KIND " + i, p.kind(), kinds[i]);
            DUE.is("SINCE " + i, p.x.now(9), since[i]);
            p.tenth(1);
        }
    }
}
