/**
 * A bird whose PRESS is told TENTH by TENTH: nothing goes OFF (DRY 0), TAIL is 18 warmer than HEAD,
 * SORT is 9, so that PRESS is 54 less CRACK. He begins RISING at TIME 2 with UP 0, COLD 0, and FULL
 * (PEG 99, LIFT 9) is above 100 STUFF.
 */
final class Poised {
    static final int FELT = 0;
    static final int PEG = 1;
    static final int STUFF = 2;
    static final int SORT = 3;
    static final int CRACK = 4;
    static final int LIFT = 5;
    static final int SIZE = 6;
    static final int BLACK = 7;
    static final int DRY = 8;
    static final int WIND = 9;
    static final int LAMP = 10;
    static final int ROOM = 11;
    static final int BELL = 12;
    static final int SPIRIT = 13;
    static final int REACH = 14;

    static final int RISING = 0;
    static final int SWINGING = 1;
    static final int TIPPING = 2;
    static final int EMPTYING = 3;
    static final int HANGING = 4;
    static final int STOPPED = 5;
    static final int DRIED = 6;

    private static final int GREATEST_PRESS = 54;

    final BirdThatDrinks x = new BirdThatDrinks();

    Poised(int stuff) {
        x.set(STUFF, stuff);
        x.set(PEG, 99);
        x.set(LIFT, 9);
        x.set(DRY, 0);
        x.set(SORT, 9);
        x.set(CRACK, 99);
        x.set(BLACK, 1);
        x.set(LAMP, 9);
        x.run(1); // TAIL 218
        x.set(LAMP, 0);
        x.set(BLACK, 0);
        tenth(1);
    }

    int up() {
        return x.now(3);
    }

    int kind() {
        return x.now(8);
    }

    /** PRESS (-45 .. 54) from the next TENTH on. */
    Poised press(int press) {
        x.set(CRACK, GREATEST_PRESS - press);
        return this;
    }

    /** One TENTH with this PRESS; the KIND of STATE behind it. */
    int tenth(int press) {
        return tenths(1, press);
    }

    int tenths(int n, int press) {
        press(press);
        for (int left = n; left > 0; left -= 3000) {
            x.run(Math.min(left, 3000));
        }
        return kind();
    }

    /** UP comes to be this, whatever is on the way. */
    Poised raised(int up) {
        int far = (up - up()) / 27;
        if (far > 0) {
            tenths(far, GREATEST_PRESS);
        }
        if (up != up()) {
            tenth(2 * (up - up()));
        }
        return this;
    }

    Poised with(int what, int v) {
        x.set(what, v);
        return this;
    }

    /** TIPPING with this UP (10 .. 500), behind its first TENTH; STUFF is 10. */
    static Poised tipping(int up) {
        Poised p = new Poised(10).raised(up).with(PEG, 1).with(LIFT, 0);
        p.tenth(1);
        return p;
    }

    /** EMPTYING, ahead of its first TENTH, with UP as he tipped. */
    static Poised emptying(int up) {
        Poised p = tipping(up);
        p.tenths(5, 1);
        return p;
    }

    /** SWINGING, ahead of its first TENTH, with UP 49; STUFF is 10 and FULL above 100 STUFF. */
    static Poised swinging() {
        Poised p = emptying(66);
        p.tenth(1);
        return p.with(PEG, 99).with(LIFT, 9);
    }

    /** STOPPED with this UP, COLD 50, FULL above 100 STUFF. */
    static Poised stopped(int stuff, int up) {
        Poised p = new Poised(stuff).raised(up);
        p.tenths(50, 0);
        return p;
    }

    static Poised dried(int stuff, int up) {
        Poised p = new Poised(stuff).raised(up);
        p.x.glass(0);
        p.tenths(50, 0);
        return p;
    }

    /** HANGING with UP 1000; STUFF is 10. */
    static Poised hanging() {
        return new Poised(10).raised(1000);
    }

    /**
     * A bird with just these DOTS, each 7 or more behind the one ahead, the first 7 or more: STUFF 10, PEG 1,
     * UP 7 as he waits, PRESS 6 as he tips.
     */
    static BirdThatDrinks dots(int... dots) {
        Poised p = new Poised(10).with(PEG, 1).with(LIFT, 0);
        for (int i = 0; i < dots.length; i++) {
            int wait = dots[i] - 5 - p.x.now(6);
            if (wait > 0) {
                p.tenths(wait, 1);
            }
            p.tenths(7, i == 0 ? 20 : 6);
        }
        p.press(1);
        return p.x;
    }
}
