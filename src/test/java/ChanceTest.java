/** Promises 24 to 27: guests, build, elsewhere, winter. */
public final class ChanceTest {
    private static final Check C = new Check("ChanceTest");

    public static void main(String[] args) {
        guestsRefuses();
        guests();
        buildRefuses();
        build();
        elsewhere();
        winterRefuses();
        winter();
        winterDraws();
        C.end();
    }

    private static void guestsRefuses() {
        SnowTalk x = new SnowTalk();
        long unknown = SnowTalk.LOST + SnowTalk.UNKNOWN;
        long outside = SnowTalk.LOST + SnowTalk.OUTSIDE;
        C.due("24: garden 6", x.guests(6, 11, 13, 2), unknown);
        C.due("24: garden -1", x.guests(-1, 0, 0, 0), unknown);
        C.due("24: t 11", x.guests(0, 11, 0, 0), outside);
        C.due("24: t -1", x.guests(0, -1, 0, 0), outside);
        C.due("24: m 13", x.guests(0, 0, 13, 0), outside);
        C.due("24: m -1", x.guests(0, 0, -1, 0), outside);
        C.due("24: part 2", x.guests(0, 0, 0, 2), outside);
        C.due("24: part -1", x.guests(0, 0, 0, -1), outside);
    }

    private static void chance(String when, SnowTalk x, int t, int m, long upper, long lower) {
        C.due("24: " + when + ", upper", x.guests(0, t, m, 0), upper);
        C.due("24: " + when + ", lower", x.guests(0, t, m, 1), lower);
    }

    private static void guests() {
        SnowTalk x = new SnowTalk();
        chance("no evening", x, 5, 0, 1, 1);
        chance("six lies are 18", x, 10, 6, 1, 1);
        chance("seven are 21", x, 10, 7, 0, 1);
        chance("all but seven of seven", x, 5, 7, 127, 128);
        x.garden(0, 1, 3);
        chance("none or one of two", x, 3, 2, 91, 100);
        chance("never", x, 0, 12, 1, 1);
        chance("none or one of twelve", x, 1, 12, 659002251789L, 1000000000000L);
        x.garden(0, 0, 1);
        chance("none of twelve", x, 3, 12, 13841287201L, 1000000000000L);
        x.garden(0, 0, 3);
        chance("it bears just that", x, 2, 1, 4, 5);
        x.garden(0, 0, 4);
        chance("it is too deep now", x, 0, 0, 0, 1);
        x.garden(0, 0, 9);
        Check.tell(x, ".");
        x.garden(0, 0, 0);
        chance("it has fallen", x, 0, 0, 0, 1);
        x.garden(0, 1, 8);
        x.set(1, 4);
        Check.tell(x, "aBl");
        chance("never again, LIE as it is", x, 10, 1, 1, 1);
        x.set(1, 0);
        chance("lies without flakes", x, 10, 12, 1, 1);
        C.due("24: nothing is done", x.state(0, 0), 4);
    }

    private static void buildRefuses() {
        SnowTalk x = new SnowTalk();
        C.due("25: garden 6", x.build(6, 11, 13, 2, 0), SnowTalk.UNKNOWN);
        C.due("25: garden -1", x.build(-1, 0, 0, 0, 1), SnowTalk.UNKNOWN);
        C.due("25: t 11", x.build(0, 11, 0, 0, 1), SnowTalk.OUTSIDE);
        C.due("25: t -1", x.build(0, -1, 0, 0, 1), SnowTalk.OUTSIDE);
        C.due("25: m 13", x.build(0, 0, 13, 0, 1), SnowTalk.OUTSIDE);
        C.due("25: m -1", x.build(0, 0, -1, 0, 1), SnowTalk.OUTSIDE);
        C.due("25: a over b", x.build(0, 0, 0, 6, 5), SnowTalk.OUTSIDE);
        C.due("25: a -1", x.build(0, 0, 0, -1, 5), SnowTalk.OUTSIDE);
        C.due("25: b 0", x.build(0, 0, 0, 0, 0), SnowTalk.OUTSIDE);
        C.due("25: b 101", x.build(0, 0, 0, 0, 101), SnowTalk.OUTSIDE);
    }

    private static void build() {
        SnowTalk x = new SnowTalk();
        C.due("25: nothing", x.build(0, 0, 12, 1, 1), 0);
        C.due("25: no evening", x.build(0, 10, 0, 1, 1), 0);
        C.due("25: just a half", x.build(0, 5, 1, 1, 2), 0);
        C.due("25: over a half", x.build(0, 5, 1, 51, 100), 3);
        C.due("25: 3 by 4 of two", x.build(0, 5, 2, 3, 4), 3);
        C.due("25: 76 by 100 of two", x.build(0, 5, 2, 76, 100), 6);
        C.due("25: all of twelve", x.build(0, 1, 12, 1, 1), 36);
        C.due("25: 99 by 100 of twelve", x.build(0, 1, 12, 99, 100), 12);
        x.garden(0, 0, 7);
        C.due("25: on snow", x.build(0, 5, 2, 3, 4), 10);
        C.due("25: 0 by b needs nothing", x.build(0, 5, 2, 0, 4), 0);
        C.due("25: what lies there, at least", x.build(0, 5, 2, 1, 100), 7);
        x.set(1, 0);
        C.due("25: lies without flakes", x.build(0, 10, 12, 1, 1), 7);
        x.set(1, 9);
        x.garden(0, 0, 891);
        C.due("25: just 999", x.build(0, 10, 12, 1, 1), 999);
        x.garden(0, 0, 892);
        C.due("25: over 999", x.build(0, 10, 12, 1, 1), SnowTalk.NONE);
        x.garden(0, 0, 30);
        Check.tell(x, ".");
        C.due("25: a new roof, though the old one fell", x.build(0, 10, 1, 1, 1), 38);
        C.due("25: nothing is built", x.told(10), 20);
    }

    private static void elsewhere() {
        SnowTalk x = new SnowTalk();
        for (int n = 2; n <= 8; n++) {
            x.gardens(n);
            C.due("26: rounds of " + n, x.elsewhere(-1), n == 2 ? 1 : 2);
            int sum = 0;
            for (int g = 0; g < n; g++) {
                sum += x.elsewhere(g);
                C.due("26: lies in " + g + " of " + n, x.elsewhere(g), 1);
            }
            C.due("26: all of " + n, sum, n);
            C.due("26: garden " + n, x.elsewhere(n), SnowTalk.UNKNOWN);
            C.due("26: garden -2", x.elsewhere(-2), SnowTalk.UNKNOWN);
        }
    }

    private static void winterRefuses() {
        SnowTalk x = new SnowTalk();
        C.due("27: seed -1", x.winter(-1, 1, 0), SnowTalk.OUTSIDE);
        C.due("27: seed 10000", x.winter(10000, 1, 0), SnowTalk.OUTSIDE);
        C.due("27: m 0", x.winter(0, 0, 0), SnowTalk.OUTSIDE);
        C.due("27: m 100", x.winter(0, 100, 0), SnowTalk.OUTSIDE);
        C.due("27: what -1", x.winter(0, 1, -1), SnowTalk.OUTSIDE);
        C.due("27: what 3", x.winter(0, 1, 3), SnowTalk.OUTSIDE);
    }

    private static void ends(String when, SnowTalk x, int seed, int m, int... want) {
        for (int what = 0; what < 3; what++) {
            C.due("27: " + when + ", " + what, x.winter(seed, m, what), want[what]);
        }
    }

    private static void winter() {
        SnowTalk x = new SnowTalk();
        // Seed 1 gives 149: by 8 left over 5, 18 left over 0, 2: a LIE in a of C.
        ends("a LIE", x, 1, 1, 3, 0, 0);
        x.garden(0, 1, 2);
        ends("a roof falls by it", x, 1, 1, 3, 1, 0);
        // Then 11249: left over 1: a thaw.
        ends("a thaw behind it", x, 1, 2, 0, 1, 3);
        C.deep("27: nothing is done", x, "0 0 0 0 0 0");
        C.due("27: nor fallen", x.state(0, 1), 0);
        C.due("27: nor in the brook", x.told(2), 0);
        Check.tell(x, "aClw");
        x.garden(0, 1, 20);
        x.garden(5, 0, 40);
        Check.tell(x, ".");
        ends("from all as it is", x, 1, 1, 43, 32, 3);
        Check.tell(x, "aCt");
        ends("said before", x, 1, 1, 45, 32, 3);
        // Seed 0 gives 74: left over 2, 9 left over 3, 1: a good word in d of B.
        ends("what can not be is not", x, 0, 1, 41, 32, 3);
        x.garden(3, 0, 9);
        ends("a good word", x, 0, 1, 46, 32, 3);
        x.garden(5, 0, 0);
        x.garden(0, 0, 999);
        ends("not over 999", x, 1, 1, 1008, 32, 3);
    }

    private static void winterDraws() {
        SnowTalk x = new SnowTalk();
        for (int g = 0; g < 6; g++) {
            x.garden(g, 1, 0);
        }
        // The first draws are 224, 299, 524, 374 and 599.
        ends("left over 3: t in b", x, 3, 1, 1, 2, 0);
        ends("left over 4: t in f", x, 6, 1, 1, 32, 0);
        ends("left over 6: l in e", x, 4, 1, 3, 16, 0);
        ends("left over 7: l in c", x, 7, 1, 3, 4, 0);
        // 4499: left over 3, 562 left over 4, 70 left over 4.
        ends("of one in his own garden: not", x, 59, 1, 0, 0, 0);
        x.garden(0, 0, 9);
        x.garden(0, 1, 9);
        ends("left over 0: a night", x, 2, 1, 9, 2, 0);
    }
}
