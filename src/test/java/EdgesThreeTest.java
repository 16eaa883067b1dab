/** Part 3 of the document: where to talk, clearing, salt, slides. Each sentence that names an edge. */
public final class EdgesThreeTest {
    private static final Check C = new Check("EdgesThreeTest");
    private static final int NONE = SnowTalk.NONE;

    public static void main(String[] args) {
        whereFourAtMost();
        whereNumbers();
        whereNotHis();
        whereRoofs();
        whereAgain();
        whereLeast();
        whereFallen();
        cleared();
        salted();
        saltedOnAnyStreet();
        slideByV();
        slideStops();
        holds();
        holdsOnAnyStreet();
        C.end();
    }

    /** A street with these roofs and no snow, with this text on the pad. */
    private static SnowTalk roofs(String text, int... bear) {
        SnowTalk x = new SnowTalk();
        x.gardens(bear.length);
        for (int g = 0; g < bear.length; g++) {
            x.garden(g, 1, bear[g]);
        }
        Check.write(x, text);
        return x;
    }

    private static void placed(String when, SnowTalk x, int unsaid, int... places) {
        C.due("14: " + when + ", unsaid", x.where(-1), unsaid);
        for (int i = 0; i < places.length; i++) {
            C.due("14: " + when + ", where(" + i + ")", x.where(i), places[i]);
        }
        C.due("14: " + when + ", no further one", x.where(places.length), NONE);
    }

    // "t, l alone, 4 WORDS at most"; "FULL: more than 4"
    private static void whereFourAtMost() {
        placed("none", roofs("", 9, 9), 0);
        placed("one", roofs("aBt", 9, 9), 0, 0);
        placed("four", roofs("aBtbAlaBtbAl", 9, 9), 0, 0, 1, 0, 1);
        SnowTalk five = roofs("aBtbAlaBtbAlaBt", 9, 9);
        for (int i = -2; i <= 5; i++) {
            C.due("14: five, where(" + i + ")", five.where(i), SnowTalk.FULL);
        }
        for (String text : new String[] {"aB+", "a*", ".", "w"}) {
            SnowTalk x = new SnowTalk();
            x.garden(0, 0, 9);
            Check.write(x, "bAt" + text);
            C.due("14: that can be, " + text, x.judge(0), NONE);
            C.due("14: but not placed, " + text, x.where(-1), SnowTalk.NO);
            C.due("14: nor its first word, " + text, x.where(0), SnowTalk.NO);
        }
    }

    // "how many (i = -1), the GARDEN of the i-th; NONE (also: there is no i-th)"
    private static void whereNumbers() {
        SnowTalk x = roofs("aBtbAl", 9, 9);
        C.due("14: how many", x.where(-1), 0);
        C.due("14: the 0th", x.where(0), 0);
        C.due("14: the 1st", x.where(1), 1);
        for (int i : new int[] {2, 3, 4, -2, Integer.MIN_VALUE, Integer.MAX_VALUE}) {
            C.due("14: no " + i + "th", x.where(i), NONE);
        }
        Check.write(x, "aBtbAlaBtbAl");
        C.due("14: the 3rd", x.where(3), 1);
        C.due("14: no 4th", x.where(4), NONE);
    }

    // "in any GARDEN that is not his of whom it is, or not at all"
    private static void whereNotHis() {
        placed("only his own bears it", roofs("aBt", 0, 9), 1, NONE);
        placed("another than it stands in", roofs("aCt", 0, 9, 9), 0, 1);
        placed("not his own between", roofs("aBt", 0, 9, 9), 0, 2);
        placed("the last of eight", roofs("aBt", 0, 0, 0, 0, 0, 0, 0, 1), 0, 7);
        placed("none of eight", roofs("aHt", 0, 0, 0, 0, 0, 0, 0, 1), 1, NONE);
        C.due("14: his own on the pad", roofs("aAt", 9, 9).where(-1), SnowTalk.NO);
        C.due("14: his own, behind others", roofs("aBtbBl", 9, 9).where(0), SnowTalk.NO);
    }

    // "so that no ROOF falls that has not"
    private static void whereRoofs() {
        placed("it bears just that", roofs("aBl", 3, 0), 0, 0);
        placed("it does not bear one more", roofs("aBl", 2, 0), 1, NONE);
        SnowTalk x = roofs("aBl", 9, 0);
        x.garden(0, 0, 6);
        placed("with what lies there", x, 0, 0);
        x.garden(0, 0, 7);
        placed("one more lies there", x, 1, NONE);
        x.set(1, 2);
        placed("by fewer flakes", x, 0, 0);
        x.set(1, 0);
        x.garden(0, 0, 9);
        placed("by none", x, 0, 0);
        x.garden(0, 0, 10);
        placed("it bears less than lies there", x, 1, NONE);
        placed("one after another", roofs("aBlaBl", 7, 0), 0, 0, 0);
        placed("not both", roofs("aBlaBl", 6, 0), 1, 0, NONE);
    }

    // AGAIN: as it is now, and by the words ahead
    private static void whereAgain() {
        SnowTalk x = roofs("", 20, 20, 20);
        Check.tell(x, "aCt");
        x.garden(0, 1, 4);
        x.garden(1, 1, 2);
        Check.write(x, "bCl");
        placed("it is said again there", x, 1, NONE);
        x.garden(0, 1, 5);
        placed("it bears that, too", x, 0, 0);
        Check.tell(x, "w");
        x.garden(0, 0, 1);
        x.garden(0, 1, 4);
        Check.write(x, "bCl");
        placed("a thaw forgets it", x, 0, 0);
        placed("a t makes an l again", roofs("bCtbCl", 4, 0, 0), 1, 0, NONE);
        placed("of another it is not", roofs("cBtcDl", 4, 0, 0, 0), 0, 0, 0);
        placed("not said, it makes nothing again", roofs("bCtbCl", 0, 3, 0), 1, 1, NONE);
        placed("the l alone", roofs("bClbCt", 3, 0, 0), 1, 0, NONE);
    }

    // "the fewest that are not said"; "of several the least by GARDENS, unsaid behind all"
    private static void whereLeast() {
        placed("the least", roofs("dAt", 9, 9, 9, 9), 0, 1);
        placed("the least, each", roofs("dAtdBtdCtaDt", 9, 9, 9, 9), 0, 1, 0, 0, 0);
        placed("the first is said ahead of the second", roofs("bCtbCt", 0, 1, 0), 1, 1, NONE);
        placed("the first in the last garden ahead of the second in the first", roofs("bDtaBt", 0, 0, 0, 0, 1), 1, 4, NONE);
        placed("a later one is said if the first can not be", roofs("bClbCt", 1, 0, 0), 1, NONE, 0);
        placed("fewest ahead of least", roofs("bCtbCl", 3, 1, 0), 0, 1, 0);
        placed("three of four", roofs("bCtbCtbCtbCl", 1, 1, 1, 3, 0), 1, 0, 1, 3, NONE);
        placed("none at all", roofs("bCtbClbCtbCl", 0, 0, 9, 0), 4, NONE, NONE, NONE, NONE);
    }

    // "that has not": a roof that has fallen holds no word off
    private static void whereFallen() {
        SnowTalk x = roofs("", 0, 0);
        x.garden(0, 0, 1);
        Check.tell(x, "w");
        Check.write(x, "aBl");
        placed("it has not fallen", x, 1, NONE);
        x.garden(0, 0, 4);
        Check.tell(x, "w");
        Check.write(x, "aBl");
        placed("it has fallen", x, 0, 0);
        x.garden(0, 0, 996);
        placed("up to 999", x, 0, 0);
        x.garden(0, 0, 997);
        placed("more can not be", x, 1, NONE);
    }

    // "CLEARED: the fewest good WORDS by which no GARDEN is DEEPER than v (0 to 999)"
    private static void cleared() {
        for (int shovel = 1; shovel <= 9; shovel++) {
            for (int times = 0; times < 3; times++) {
                SnowTalk x = new SnowTalk();
                x.set(3, shovel);
                x.garden(5, 0, shovel * times);
                C.due("15: just so many", x.cleared(0), times);
                x.garden(5, 0, shovel * times + 1);
                C.due("15: one flake more", x.cleared(0), times + 1);
                C.due("15: down to 1", x.cleared(1), times);
                x.garden(5, 0, 0);
                C.due("15: nothing is deep", x.cleared(0), 0);
            }
        }
        SnowTalk x = new SnowTalk();
        Check.snow(x, 10, 11, 15, 9, 0, 14);
        C.due("15: as deep as v", x.cleared(15), 0);
        C.due("15: one less", x.cleared(14), 1);
        C.due("15: each garden by itself", x.cleared(10), 1 + 2 + 1);
        C.due("15: to 0", x.cleared(0), 3 + 3 + 4 + 3 + 4);
        x.garden(0, 0, 999);
        C.due("15: to 999", x.cleared(999), 0);
        C.due("15: to 998", x.cleared(998), 1);
        C.due("15: 1000", x.cleared(1000), SnowTalk.OUTSIDE);
        C.due("15: -1", x.cleared(-1), SnowTalk.OUTSIDE);
    }

    private static void salted(int due, int v, int... deep) {
        SnowTalk x = new SnowTalk();
        x.gardens(deep.length);
        Check.snow(x, deep);
        C.due("16: salted(" + v + ") of " + Check.depths(x), x.salted(v), due);
    }

    // "SALTED: the fewest spreads of salt (5 at most; ..) by which that is: how many; NONE"
    private static void salted() {
        salted(0, 0, 0, 0);
        salted(0, 5, 5, 5);
        salted(1, 4, 5, 5);
        salted(1, 0, 2, 1);
        salted(2, 0, 2, 2);
        salted(2, 0, 3, 3);
        salted(3, 0, 4, 4);
        salted(5, 0, 7, 8);
        salted(NONE, 0, 8, 8);
        salted(5, 0, 10, 0);
        salted(NONE, 0, 11, 0);
        salted(5, 989, 999, 0);
        salted(NONE, 988, 999, 0);
        salted(0, 999, 999, 999);
        salted(1, 998, 999, 999);
        salted(NONE, 0, 999, 999);
        salted(1, 0, 1, 2, 1);
        salted(2, 0, 1, 2, 2);
        salted(5, 0, 5, 10, 5);
        salted(NONE, 0, 5, 11, 5);
        salted(NONE, 0, 6, 10, 5);
        salted(3, 0, 1, 1, 1, 1, 1, 1, 1, 1);
        salted(3, 0, 2, 1, 1, 2, 1, 1, 2, 1);
        salted(4, 0, 2, 1, 1, 2, 1, 1, 2, 2);
        salted(5, 0, 2, 0, 2, 0, 2, 0, 2, 2);
        salted(NONE, 0, 3, 0, 0, 3, 0, 0, 3, 0);
        salted(5, 0, 3, 0, 0, 3, 0, 0, 2, 0);
        C.due("16: 1000", new SnowTalk().salted(1000), SnowTalk.OUTSIDE);
        C.due("16: -1", new SnowTalk().salted(-1), SnowTalk.OUTSIDE);
    }

    /** What salted() answers can be spread, word by word, and one fewer can not: tried on all streets of three up to 4 deep. */
    private static void saltedOnAnyStreet() {
        for (int code = 0; code < 125; code++) {
            int[] deep = {code % 5, code / 5 % 5, code / 25};
            SnowTalk x = new SnowTalk();
            x.gardens(3);
            Check.snow(x, deep);
            for (int v = 0; v < 3; v++) {
                C.due("16: salted(" + v + ") of " + code, x.salted(v), spreads(deep, v, 5));
            }
        }
    }

    private static int spreads(int[] deep, int v, int most) {
        if (deep[0] <= v && deep[1] <= v && deep[2] <= v) {
            return 0;
        }
        int best = NONE;
        for (int g = 0; g < 3 && most > 0; g++) {
            int[] then = deep.clone();
            boolean isDeep = false;
            for (int i = Math.max(0, g - 1); i <= Math.min(2, g + 1); i++) {
                isDeep |= deep[i] > 0;
                then[i] = Math.max(0, deep[i] - (i == g ? 2 : 1));
            }
            int more = isDeep ? spreads(then, v, Math.min(most - 1, best == NONE ? most : best - 2)) : NONE;
            if (more != NONE) {
                best = more + 1;
            }
        }
        return best;
    }

    private static SnowTalk snow(int... deep) {
        SnowTalk x = new SnowTalk();
        x.gardens(deep.length);
        Check.snow(x, deep);
        return x;
    }

    // "in a GARDEN that is DEEP by v (1 to 999) or more"; "STATE: it is not so DEEP there"
    private static void slideByV() {
        SnowTalk x = snow(5, 0, 1, 999, 0, 998);
        C.due("17: as deep", x.slide(0, 5, 0), 1);
        C.due("17: deeper", x.slide(0, 4, 0), 1);
        C.due("17: not so deep", x.slide(0, 6, 0), SnowTalk.STATE);
        C.due("17: not so deep", x.slide(0, 6, 1), SnowTalk.STATE);
        C.due("17: by 1", x.slide(2, 1, 1), 1 + 999);
        C.due("17: not by 2", x.slide(2, 2, 1), SnowTalk.STATE);
        C.due("17: no snow", x.slide(1, 1, 0), SnowTalk.STATE);
        C.due("17: by 0", x.slide(0, 0, 0), SnowTalk.OUTSIDE);
        C.due("17: by 999", x.slide(3, 999, 0), 4);
        C.due("17: by 999, not so deep", x.slide(5, 999, 0), SnowTalk.STATE);
        C.due("17: by 998", x.slide(5, 998, 1), 998);
        C.due("17: by 1000", x.slide(3, 1000, 0), SnowTalk.OUTSIDE);
        C.due("17: what 0", x.slide(3, 5, 0), 4);
        C.due("17: what 1", x.slide(3, 5, 1), 999);
        C.due("17: what 2", x.slide(3, 5, 2), SnowTalk.OUTSIDE);
        C.due("17: what -1", x.slide(3, 5, -1), SnowTalk.OUTSIDE);
    }

    // "if that one was DEEP by v or more, all that is there slides on, and so on; out of the last one into the BROOK"
    private static void slideStops() {
        SnowTalk x = snow(9, 4, 4, 3, 9, 4);
        C.due("17: one that is as deep as v slides on", x.slide(0, 4, 0), 3);
        C.due("17: with all that is there", x.slide(0, 4, 1), 9 + 4 + 4);
        C.due("17: one that is one less holds it", x.slide(0, 5, 0), 1);
        C.due("17: what comes there, without what lay there", x.slide(0, 5, 1), 9);
        C.due("17: was so deep, not: is, with what comes", x.slide(0, 9, 0), 1);
        C.due("17: into the brook", x.slide(4, 4, 0), NONE);
        C.due("17: so much comes there", x.slide(4, 4, 1), 13);
        C.due("17: the last but one stops in the last", x.slide(4, 5, 0), 5);
        C.due("17: so much comes there", x.slide(4, 5, 1), 9);
        C.due("17: out of the last one", x.slide(5, 4, 0), NONE);
        C.due("17: its own", x.slide(5, 4, 1), 4);
        C.due("17: down all the street", x.slide(0, 3, 0), NONE);
        C.due("17: all of it", x.slide(0, 3, 1), 33);
        C.due("17: from the middle, not what is above", x.slide(3, 3, 1), 16);
        SnowTalk full = snow(999, 999, 999, 999, 999, 999, 999, 999);
        C.due("17: all there can be", full.slide(0, 999, 1), 7992);
        C.due("17: all there can be, where", full.slide(0, 999, 0), NONE);
        SnowTalk two = snow(1, 0);
        C.due("17: one with no snow holds any", two.slide(0, 1, 0), 1);
        C.due("17: so much", two.slide(0, 1, 1), 1);
    }

    // "the least v by which a SLIDE from a GARDEN does not come to the BROOK; NONE"; "STATE: it is not DEEP there"
    private static void holds() {
        C.due("18: no snow below", snow(1, 0).holds(0), 1);
        C.due("18: one less below", snow(2, 1).holds(0), 2);
        C.due("18: as much below", snow(2, 2).holds(0), NONE);
        C.due("18: more below", snow(2, 3).holds(0), NONE);
        C.due("18: the last", snow(2, 3).holds(1), NONE);
        C.due("18: the last, 999 deep", snow(2, 999).holds(1), NONE);
        C.due("18: not deep", snow(0, 3).holds(0), SnowTalk.STATE);
        C.due("18: the last, not deep", snow(3, 0).holds(1), SnowTalk.STATE);
        C.due("18: 998 below 999", snow(999, 998).holds(0), 999);
        C.due("18: 999 below 999", snow(999, 999).holds(0), NONE);
        C.due("18: the shallowest, wherever", snow(9, 8, 5, 7, 6).holds(0), 6);
        C.due("18: below it, not above", snow(0, 8, 5, 7, 6).holds(2), NONE);
        C.due("18: below it, not above", snow(0, 8, 5, 7, 6).holds(3), 7);
        C.due("18: holds(5) of five", snow(0, 8, 5, 7, 6).holds(5), SnowTalk.UNKNOWN);
        C.due("18: holds(-1)", snow(0, 8, 5, 7, 6).holds(-1), SnowTalk.UNKNOWN);
    }

    /** It is the least v for which slide() does not tell the brook: on all streets of four up to 3 deep. */
    private static void holdsOnAnyStreet() {
        for (int code = 0; code < 256; code++) {
            SnowTalk x = snow(code & 3, code >> 2 & 3, code >> 4 & 3, code >> 6);
            for (int g = 0; g < 4; g++) {
                int due = x.state(g, 0) == 0 ? SnowTalk.STATE : NONE;
                for (int v = 1; v <= x.state(g, 0) && due == NONE; v++) {
                    due = x.slide(g, v, 0) == NONE ? NONE : v;
                }
                C.due("18: holds(" + g + ") of " + code, x.holds(g), due);
            }
        }
    }
}
