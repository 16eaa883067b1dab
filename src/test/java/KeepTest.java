/** Promises 28 to 30: image, restore, told. */
public final class KeepTest {
    private static final Check C = new Check("KeepTest");

    public static void main(String[] args) {
        refuses();
        keepsAll();
        twoImages();
        told();
        C.end();
    }

    private static void refuses() {
        SnowTalk x = new SnowTalk();
        C.due("28: image(2)", x.image(2), SnowTalk.OUTSIDE);
        C.due("28: image(-1)", x.image(-1), SnowTalk.OUTSIDE);
        C.due("29: restore(2)", x.restore(2), SnowTalk.OUTSIDE);
        C.due("29: restore(-1)", x.restore(-1), SnowTalk.OUTSIDE);
        C.due("29: not kept", x.restore(0), SnowTalk.STATE);
        C.due("28: image(1)", x.image(1), 1);
        C.due("29: the other is not kept", x.restore(0), SnowTalk.STATE);
        C.due("29: kept", x.restore(1), 1);
    }

    private static void keepsAll() {
        SnowTalk x = new SnowTalk();
        x.gardens(7);
        x.garden(2, 1, 3);
        for (int which = 0; which < 4; which++) {
            x.set(which, 4 + which);
        }
        Check.tell(x, "cAlw");
        Check.tell(x, "cBtcBtgAl");
        x.seen(1, 12);
        x.seen(6, 5);
        Check.write(x, "aB");
        x.image(0);
        x.gardens(3);
        for (int which = 0; which < 4; which++) {
            x.set(which, 9);
        }
        Check.tell(x, "aClbAt");
        Check.write(x, "cB");
        x.say('l');
        C.due("29: restore", x.restore(0), 1);
        C.due("29: the pad stays as it is", x.told(0), 3);
        C.due("29: a word on it", x.fault(), SnowTalk.NONE);
        C.deep("29: depths", x, "0 0 16 0 0 0 5");
        C.due("29: gardens", x.told(1), 7);
        C.due("29: brook", x.told(2), 3);
        for (int which = 0; which < 4; which++) {
            C.due("29: number " + which, x.told(3 + which), 4 + which);
        }
        C.due("29: sights", x.told(7), 2);
        C.due("29: roof", x.told(12), 3);
        C.due("29: fallen", x.state(2, 1), 1);
        C.due("29: others not", x.state(6, 1), 0);
        C.due("29: recognised", x.recognised(2), 1);
        C.due("29: said again", x.behind(2, 0), 16 + 5 + 6);
        C.due("29: the sights are those", x.who(0, 0), 0);
        x.garden(1, 0, 12);
        x.garden(2, 0, 12);
        C.due("29: just those", x.who(0, 0), 1);
        C.due("29: again and again", x.restore(0), 1);
        C.due("29: as it was", x.state(1, 0), 0);
    }

    private static void twoImages() {
        SnowTalk x = new SnowTalk();
        x.garden(0, 0, 1);
        x.image(0);
        x.garden(0, 0, 2);
        x.image(1);
        x.garden(0, 0, 3);
        x.restore(0);
        C.due("29: the first", x.state(0, 0), 1);
        x.restore(1);
        C.due("29: the second", x.state(0, 0), 2);
        x.image(0);
        x.garden(0, 0, 4);
        x.restore(0);
        C.due("28: kept anew", x.state(0, 0), 2);
    }

    private static void told() {
        SnowTalk x = new SnowTalk();
        Check.tell(x, "aBlwaBl");
        Check.write(x, "aBt..");
        x.set(0, 5);
        x.set(1, 6);
        x.set(2, 7);
        x.set(3, 8);
        x.seen(0, 0);
        x.garden(0, 1, 11);
        x.garden(5, 1, 12);
        int[] want = {5, 6, 3, 5, 6, 7, 8, 1, SnowTalk.OUTSIDE, SnowTalk.OUTSIDE, 11, 20, 20, 20, 20, 12,
            SnowTalk.OUTSIDE, SnowTalk.OUTSIDE, SnowTalk.OUTSIDE};
        for (int what = 0; what < want.length; what++) {
            C.due("30: told(" + what + ")", x.told(what), want[what]);
        }
        C.due("30: told(-1)", x.told(-1), SnowTalk.OUTSIDE);
        C.due("30: the least number", x.told(Integer.MIN_VALUE), SnowTalk.OUTSIDE);
        C.due("30: the largest number", x.told(Integer.MAX_VALUE), SnowTalk.OUTSIDE);
        x.gardens(8);
        C.due("30: a roof more", x.told(17), 20);
        C.due("30: not two", x.told(18), SnowTalk.OUTSIDE);
        Check.tell(x, "hAl");
        x.garden(7, 1, 1);
        Check.tell(x, ".");
        C.due("30: a roof that has fallen, too", x.told(17), 1);
    }
}
