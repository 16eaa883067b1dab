/**
 * "Calls that are refused answer, the first of these that fits: UNKNOWN,
 * OUTSIDE, NO, STATE, FULL. They change nothing." Each refusal of each promise,
 * and each pair of refusals that can fit at once.
 */
public final class RefusalsTest {
    private static final Check C = new Check("RefusalsTest");
    private static final int U = SnowTalk.UNKNOWN, O = SnowTalk.OUTSIDE, NO = SnowTalk.NO;
    private static final int STATE = SnowTalk.STATE, FULL = SnowTalk.FULL;
    private static final int LEAST = Integer.MIN_VALUE, MOST = Integer.MAX_VALUE;
    private static final String FINE = "aBt.c*";
    private static final String FAULT = "aBt.c";
    private static final String OWN = "aBt.aAt";
    private static final String[] NO_GARDENS = {"7", "-1", "8", "100", "" + LEAST, "" + MOST};

    private interface Call {
        long on(SnowTalk x);
    }

    public static void main(String[] args) {
        gardensAndNumbers();
        signs();
        talks();
        states();
        where();
        clearing();
        sights();
        rows();
        chances();
        winters();
        images();
        told();
        C.end();
    }

    /** What is done first is done to both; then one is refused a call, and nothing else may differ. */
    private static void refused(String name, String pad, Call first, Call call, long due) {
        SnowTalk asked = Everything.rich(pad);
        SnowTalk other = Everything.rich(pad);
        if (first != null) {
            first.on(asked);
            first.on(other);
        }
        C.due(name, call.on(asked), due);
        C.holds(name + " changed nothing", Everything.all(asked).equals(Everything.all(other)));
    }

    private static void refused(String name, Call call, long due) {
        refused(name, FINE, null, call, due);
    }

    private static void gardensAndNumbers() {
        for (int n : new int[] {1, 9, 0, -1, LEAST, MOST}) {
            refused("2: gardens(" + n + ")", x -> x.gardens(n), O);
        }
        for (String g : NO_GARDENS) {
            int garden = Integer.parseInt(g);
            refused("3: garden(" + g + ", 0, 1)", x -> x.garden(garden, 0, 1), U);
            refused("3: garden(" + g + ", 1, 1)", x -> x.garden(garden, 1, 1), U);
            refused("3: UNKNOWN ahead of OUTSIDE, what", x -> x.garden(garden, 2, 1), U);
            refused("3: UNKNOWN ahead of OUTSIDE, v", x -> x.garden(garden, 0, 1000), U);
        }
        for (int what : new int[] {-1, 2, LEAST, MOST}) {
            refused("3: what " + what, x -> x.garden(6, what, 1), O);
        }
        for (int v : new int[] {-1, 1000, LEAST, MOST}) {
            refused("3: " + v + " deep", x -> x.garden(6, 0, v), O);
            refused("3: a roof of " + v, x -> x.garden(1, 1, v), O);
        }
        for (int which : new int[] {-1, 4, LEAST, MOST}) {
            refused("4: which " + which, x -> x.set(which, 1), O);
        }
        for (int v : new int[] {-1, 10, LEAST, MOST}) {
            for (int which = 0; which < 4; which++) {
                int w = which;
                refused("4: set(" + which + ", " + v + ")", x -> x.set(w, v), O);
            }
        }
        refused("4: a SHOVEL of 0", x -> x.set(3, 0), O);
    }

    private static void signs() {
        // 65536 and 97 would be an a, if it were cut to a char.
        for (int sign : new int[] {32, 127, 31, 128, 0, 10, -1, 65536 + 97, 256 + 97, LEAST, MOST}) {
            refused("5: say(" + sign + ")", x -> x.say(sign), O);
        }
        String sixty = "aBt.".repeat(15);
        refused("5: a 61st sign", sixty, null, x -> x.say('.'), FULL);
        refused("5: OUTSIDE ahead of FULL, 32", sixty, null, x -> x.say(32), O);
        refused("5: OUTSIDE ahead of FULL, 127", sixty, null, x -> x.say(127), O);
    }

    private static void talks() {
        for (int what : new int[] {-1, 2, LEAST, MOST}) {
            refused("8: judge(" + what + ")", x -> x.judge(what), O);
            refused("8: OUTSIDE ahead of NO", FAULT, null, x -> x.judge(what), O);
        }
        refused("8: judge(0) of a fault", FAULT, null, x -> x.judge(0), NO);
        refused("8: judge(1) of a fault", FAULT, null, x -> x.judge(1), NO);
        String[] not = {FAULT, "x", "aBtx", OWN, "aBtaA+", "wcA+", "ww.a*waBt...wa*"};
        for (String text : not) {
            refused("9: done() of " + text, text, null, x -> x.done(), NO);
            refused("12: first() of " + text, text, null, x -> x.first(), NO);
            for (int what = 0; what < 2; what++) {
                int w = what;
                refused("11: behind(6, " + what + ") of " + text, text, null, x -> x.behind(6, w), NO);
            }
        }
        Call full = x -> x.garden(0, 0, 996);
        refused("9: done() of what would be 1000", "aBl", full, x -> x.done(), NO);
        refused("11: behind of what would be 1000", "aBl", full, x -> x.behind(0, 0), NO);
        refused("12: first of what would be 1000", "aBl", full, x -> x.first(), NO);
    }

    private static void states() {
        for (String g : NO_GARDENS) {
            int garden = Integer.parseInt(g);
            refused("10: state(" + g + ", 0)", x -> x.state(garden, 0), U);
            refused("10: state(" + g + ", 1)", x -> x.state(garden, 1), U);
            refused("10: UNKNOWN ahead of OUTSIDE", x -> x.state(garden, 2), U);
            refused("11: behind(" + g + ", 0)", x -> x.behind(garden, 0), U);
            refused("11: behind(" + g + ", 1)", x -> x.behind(garden, 1), U);
            refused("11: UNKNOWN ahead of OUTSIDE", x -> x.behind(garden, 2), U);
            refused("11: UNKNOWN ahead of NO, a fault", FAULT, null, x -> x.behind(garden, 0), U);
            refused("11: UNKNOWN ahead of NO, can not be", OWN, null, x -> x.behind(garden, 0), U);
            refused("11: UNKNOWN ahead of both", OWN, null, x -> x.behind(garden, -1), U);
            refused("13: recognised(" + g + ")", x -> x.recognised(garden), U);
        }
        for (int what : new int[] {-1, 2, LEAST, MOST}) {
            refused("10: what " + what, x -> x.state(0, what), O);
            refused("11: what " + what, x -> x.behind(0, what), O);
            refused("11: OUTSIDE ahead of NO, a fault", FAULT, null, x -> x.behind(0, what), O);
            refused("11: OUTSIDE ahead of NO, can not be", OWN, null, x -> x.behind(0, what), O);
        }
    }

    private static void where() {
        String[] no = {"x", "a", "aB", "aBta", "hAt", "aHt", "aB+", "a*", ".", "w", "aAt", "aAl", "aBtgGl",
            "aBtaBtaBt.", "waBt", "aBtaClb*"};
        for (String text : no) {
            for (int i : new int[] {-1, 0, 4, -2}) {
                refused("14: where(" + i + ") of " + text, text, null, x -> x.where(i), NO);
            }
        }
        String five = "aBtaBlbAtcAtdAt";
        for (int i : new int[] {-1, 0, 4, 5, -2, LEAST, MOST}) {
            refused("14: where(" + i + ") of five", five, null, x -> x.where(i), FULL);
        }
        refused("14: twenty", "aBt".repeat(20), null, x -> x.where(-1), FULL);
        refused("14: NO ahead of FULL, a fault", five + "a", null, x -> x.where(-1), NO);
        refused("14: NO ahead of FULL, a good word", five + "aB+", null, x -> x.where(-1), NO);
        refused("14: NO ahead of FULL, salt", five + "a*", null, x -> x.where(-1), NO);
        refused("14: NO ahead of FULL, a night", five + ".", null, x -> x.where(-1), NO);
        refused("14: NO ahead of FULL, a thaw", five + "w", null, x -> x.where(-1), NO);
        refused("14: NO ahead of FULL, his own", five + "aAt", null, x -> x.where(-1), NO);
    }

    private static void clearing() {
        for (int v : new int[] {-1, 1000, LEAST, MOST}) {
            refused("15: cleared(" + v + ")", x -> x.cleared(v), O);
            refused("16: salted(" + v + ")", x -> x.salted(v), O);
        }
        for (String g : NO_GARDENS) {
            int garden = Integer.parseInt(g);
            refused("17: slide(" + g + ", 1, 0)", x -> x.slide(garden, 1, 0), U);
            refused("17: UNKNOWN ahead of OUTSIDE, v", x -> x.slide(garden, 0, 0), U);
            refused("17: UNKNOWN ahead of OUTSIDE, what", x -> x.slide(garden, 1, 2), U);
            refused("17: UNKNOWN ahead of STATE", x -> x.slide(garden, 999, 0), U);
            refused("18: holds(" + g + ")", x -> x.holds(garden), U);
        }
        for (int v : new int[] {0, 1000, -1, LEAST, MOST}) {
            refused("17: v " + v, x -> x.slide(0, v, 0), O);
            refused("17: OUTSIDE ahead of STATE, v", x -> x.slide(2, v, 0), O);
        }
        for (int what : new int[] {-1, 2, LEAST, MOST}) {
            refused("17: what " + what, x -> x.slide(0, 1, what), O);
            refused("17: OUTSIDE ahead of STATE, what", x -> x.slide(2, 1, what), O);
        }
        refused("17: no snow there", x -> x.slide(2, 1, 0), STATE);
        refused("17: no snow there, how much", x -> x.slide(2, 1, 1), STATE);
        refused("17: one less than so deep", x -> x.slide(0, 8, 0), STATE);
        refused("17: one less than so deep, how much", x -> x.slide(0, 8, 1), STATE);
        refused("18: not deep there", x -> x.holds(2), STATE);
    }

    private static long sixSightsMore(SnowTalk x) {
        for (int i = 0; i < 6; i++) {
            x.seen(2, 1);
        }
        return x.told(7);
    }

    private static void sights() {
        Call eight = RefusalsTest::sixSightsMore;
        for (String g : NO_GARDENS) {
            int garden = Integer.parseInt(g);
            refused("19: seen(" + g + ", 0)", x -> x.seen(garden, 0), U);
            refused("19: UNKNOWN ahead of OUTSIDE", x -> x.seen(garden, 1000), U);
            refused("19: UNKNOWN ahead of FULL", FINE, eight, x -> x.seen(garden, 0), U);
        }
        for (int deep : new int[] {-1, 1000, LEAST, MOST}) {
            refused("19: seen(0, " + deep + ")", x -> x.seen(0, deep), O);
            refused("19: OUTSIDE ahead of FULL", FINE, eight, x -> x.seen(0, deep), O);
        }
        refused("19: a ninth sight", FINE, eight, x -> x.seen(0, 0), FULL);
        refused("19: a ninth sight, the same again", FINE, eight, x -> x.seen(2, 1), FULL);
    }

    private static void rows() {
        for (int m : new int[] {-1, 4, LEAST, MOST}) {
            for (int what = 0; what < 3; what++) {
                int w = what;
                refused("21: who(" + m + ", " + what + ")", x -> x.who(m, w), O);
                refused("22: next(" + m + ", " + what + ")", x -> x.next(m, w), O);
            }
        }
        for (int what : new int[] {-1, 3, LEAST, MOST}) {
            refused("21: who(1, " + what + ")", x -> x.who(1, what), O);
            refused("22: next(1, " + what + ")", x -> x.next(1, what), O);
        }
        refused("22: next(1, 2)", x -> x.next(1, 2), O);
        for (int i : new int[] {-1, 0, 216, -2, LEAST, MOST}) {
            refused("23: laws(" + i + ") of a fault", FAULT, null, x -> x.laws(i), NO);
        }
    }

    private static void chances() {
        long lostUnknown = -1000000000000000001L;
        long lostOutside = -1000000000000000002L;
        for (String g : NO_GARDENS) {
            int garden = Integer.parseInt(g);
            refused("24: guests(" + g + ", ..)", x -> x.guests(garden, 5, 5, 0), lostUnknown);
            refused("24: UNKNOWN ahead of OUTSIDE", x -> x.guests(garden, 11, 13, 2), lostUnknown);
            refused("25: build(" + g + ", ..)", x -> x.build(garden, 5, 5, 1, 2), U);
            refused("25: UNKNOWN ahead of OUTSIDE", x -> x.build(garden, 11, 13, 3, 0), U);
            refused("26: elsewhere(" + g + ")", garden == -1 ? x -> x.elsewhere(-2) : x -> x.elsewhere(garden), U);
        }
        for (int t : new int[] {-1, 11, LEAST, MOST}) {
            refused("24: t " + t, x -> x.guests(0, t, 5, 0), lostOutside);
            refused("25: t " + t, x -> x.build(0, t, 5, 1, 2), O);
        }
        for (int m : new int[] {-1, 13, LEAST, MOST}) {
            refused("24: m " + m, x -> x.guests(0, 5, m, 0), lostOutside);
            refused("25: m " + m, x -> x.build(0, 5, m, 1, 2), O);
        }
        for (int part : new int[] {-1, 2, LEAST, MOST}) {
            refused("24: part " + part, x -> x.guests(0, 5, 5, part), lostOutside);
            refused("24: part " + part + " where it has fallen", x -> x.guests(1, 5, 5, part), lostOutside);
        }
        for (int b : new int[] {0, 101, -1, LEAST, MOST}) {
            refused("25: 0 by " + b, x -> x.build(0, 5, 5, 0, b), O);
            refused("25: 1 by " + b, x -> x.build(0, 5, 5, 1, b), O);
        }
        for (int a : new int[] {-1, 8, 100, LEAST, MOST}) {
            refused("25: " + a + " by 7", x -> x.build(0, 5, 5, a, 7), O);
        }
        refused("25: 101 by 100", x -> x.build(0, 5, 5, 101, 100), O);
        refused("25: 2 by 1", x -> x.build(0, 5, 5, 2, 1), O);
    }

    private static void winters() {
        for (int seed : new int[] {-1, 10000, LEAST, MOST}) {
            refused("27: seed " + seed, x -> x.winter(seed, 1, 0), O);
        }
        for (int m : new int[] {0, 100, -1, LEAST, MOST}) {
            refused("27: m " + m, x -> x.winter(0, m, 0), O);
        }
        for (int what : new int[] {-1, 3, LEAST, MOST}) {
            refused("27: what " + what, x -> x.winter(0, 1, what), O);
        }
    }

    private static void images() {
        for (int n : new int[] {-1, 2, LEAST, MOST}) {
            refused("28: image(" + n + ")", x -> x.image(n), O);
            refused("29: restore(" + n + ")", x -> x.restore(n), O);
        }
        refused("29: restore(1), not kept", x -> x.restore(1), STATE);
    }

    private static void told() {
        for (int what : new int[] {-1, 8, 9, 17, 18, LEAST, LEAST + 10, MOST}) {
            refused("30: told(" + what + ")", x -> x.told(what), O);
        }
    }
}
