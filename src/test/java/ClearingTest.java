/** Promises 14 to 18: where, cleared, salted, slide, holds. */
public final class ClearingTest {
    private static final Check C = new Check("ClearingTest");

    public static void main(String[] args) {
        whereRefuses();
        where();
        whereByRoofs();
        cleared();
        salted();
        slide();
        holds();
        C.end();
    }

    private static void placed(String when, SnowTalk x, int unsaid, int... places) {
        C.due("14: " + when + ", unsaid", x.where(-1), unsaid);
        for (int i = 0; i < places.length; i++) {
            C.due("14: " + when + ", where(" + i + ")", x.where(i), places[i]);
        }
        C.due("14: " + when + ", no further one", x.where(places.length), SnowTalk.NONE);
    }

    private static void whereRefuses() {
        String[] no = {"x", "aB", "aB+", "a*", ".", "w", "aAt", "bBl", "aBtaBt.", "aBtaBtaBtaBtaB+", "aBtaBtaBtaBtaBtcCt"};
        for (String text : no) {
            C.due("14: NO of " + text, Check.with(text).where(-1), SnowTalk.NO);
            C.due("14: NO of " + text + ", 0", Check.with(text).where(0), SnowTalk.NO);
        }
        SnowTalk x = Check.with("aBtaBtaBtaBtaBt");
        C.due("14: more than 4", x.where(-1), SnowTalk.FULL);
        C.due("14: more than 4, the 9th", x.where(9), SnowTalk.FULL);
        Check.write(x, "aBtaBtaBtaBt");
        C.due("14: just 4", x.where(-1), 0);
        C.due("14: where(-2)", x.where(-2), SnowTalk.NONE);
        C.due("14: where(4)", x.where(4), SnowTalk.NONE);
    }

    private static void where() {
        SnowTalk x = new SnowTalk();
        placed("no words", x, 0);
        Check.write(x, "fAlcBt");
        placed("the least gardens, not his own", x, 0, 1, 0);
        C.deep("14: not done", x, "0 0 0 0 0 0");
        C.due("14: the pad stays", x.told(0), 6);
        x.garden(0, 1, 3);
        x.garden(1, 1, 4);
        Check.write(x, "bClbClbClaCl");
        placed("again is more", x, 0, 0, 1, 3, 3);
        x.garden(3, 1, 2);
        x.garden(4, 1, 0);
        x.garden(5, 1, 0);
        x.garden(2, 1, 9);
        placed("what is not said is last", x, 2, 0, 1, SnowTalk.NONE, SnowTalk.NONE);
        Check.write(x, "bClbCtbClbCt");
        placed("the least of several", x, 1, 0, 1, SnowTalk.NONE, 1);
        x.garden(1, 1, 1);
        x.garden(3, 1, 0);
        Check.write(x, "bCtbCl");
        placed("fewest unsaid ahead of least gardens", x, 0, 1, 0);
    }

    private static void whereByRoofs() {
        SnowTalk x = new SnowTalk();
        x.gardens(2);
        x.garden(0, 1, 3);
        Check.tell(x, "aBt");
        Check.write(x, "aBl");
        placed("it was said before", x, 1, SnowTalk.NONE);
        x.garden(0, 1, 5);
        placed("it bears that", x, 0, 0);
        x.garden(0, 0, 9);
        x.garden(0, 1, 7);
        Check.write(x, "bAt");
        placed("any word would break another roof", x, 1, SnowTalk.NONE);
        Check.tell(x, ".");
        Check.write(x, "bAtaBt");
        placed("a roof that has fallen falls no more", x, 0, 1, 0);
        x.garden(0, 0, 997);
        Check.write(x, "aBt");
        placed("up to 999", x, 0, 0);
        Check.write(x, "aBl");
        placed("more than 999 can not be", x, 1, SnowTalk.NONE);
    }

    private static void cleared() {
        SnowTalk x = new SnowTalk();
        C.due("15: no snow", x.cleared(0), 0);
        Check.snow(x, 4, 5, 0, 8, 9, 1);
        C.due("15: to 0", x.cleared(0), 1 + 2 + 2 + 3 + 1);
        C.due("15: to 1", x.cleared(1), 1 + 1 + 2 + 2);
        C.due("15: to 5", x.cleared(5), 1 + 1);
        C.due("15: to 999", x.cleared(999), 0);
        C.due("15: to 1000", x.cleared(1000), SnowTalk.OUTSIDE);
        C.due("15: to -1", x.cleared(-1), SnowTalk.OUTSIDE);
        x.set(3, 9);
        C.due("15: a large shovel", x.cleared(0), 5);
        x.gardens(8);
        x.set(3, 1);
        Check.snow(x, 999, 999, 999, 999, 999, 999, 999, 999);
        C.due("15: all of it", x.cleared(0), 7992);
        C.due("15: nothing is done", x.state(0, 0), 999);
    }

    private static void salted() {
        SnowTalk x = new SnowTalk();
        C.due("16: no snow", x.salted(0), 0);
        C.due("16: to -1", x.salted(-1), SnowTalk.OUTSIDE);
        C.due("16: to 1000", x.salted(1000), SnowTalk.OUTSIDE);
        Check.snow(x, 1, 2, 1);
        C.due("16: one in the middle", x.salted(0), 1);
        Check.snow(x, 1, 1, 1, 1, 1, 1);
        C.due("16: two for six", x.salted(0), 2);
        C.due("16: to 1", x.salted(1), 0);
        Check.snow(x, 1, 0, 1, 0, 0, 1);
        C.due("16: beside no snow", x.salted(0), 2);
        for (int g = 0; g < 6; g++) {
            Check.snow(x, 0, 0, 0, 0, 0, 0);
            x.garden(g, 0, 3);
            C.due("16: two for " + g, x.salted(0), 2);
        }
        Check.snow(x, 10, 0, 0, 0, 0, 0);
        C.due("16: five", x.salted(0), 5);
        Check.snow(x, 10, 0, 0, 1, 0, 0);
        C.due("16: more than five", x.salted(0), SnowTalk.NONE);
        Check.snow(x, 3, 4, 4, 3, 0, 0);
        C.due("16: four", x.salted(0), 4);
        Check.snow(x, 3, 4, 4, 4, 0, 0);
        C.due("16: five, then", x.salted(0), 5);
        C.due("16: to 999", x.salted(999), 0);
        C.deep("16: nothing is done", x, "3 4 4 4 0 0");
    }

    private static void slide() {
        SnowTalk x = new SnowTalk();
        Check.snow(x, 5, 4, 1, 0, 3, 6);
        C.due("17: on through one", x.slide(0, 4, 0), 2);
        C.due("17: with both", x.slide(0, 4, 1), 9);
        C.due("17: stops at once", x.slide(0, 5, 0), 1);
        C.due("17: with its own", x.slide(0, 5, 1), 5);
        C.due("17: a shallower one holds it", x.slide(1, 2, 0), 2);
        C.due("17: into the brook", x.slide(4, 3, 0), SnowTalk.NONE);
        C.due("17: so much", x.slide(4, 3, 1), 9);
        C.due("17: from the last one", x.slide(5, 1, 0), SnowTalk.NONE);
        C.due("17: so much", x.slide(5, 6, 1), 6);
        C.due("17: not so deep", x.slide(5, 7, 0), SnowTalk.STATE);
        C.due("17: no snow", x.slide(3, 1, 1), SnowTalk.STATE);
        C.due("17: garden 6", x.slide(6, 0, 9), SnowTalk.UNKNOWN);
        C.due("17: garden -1", x.slide(-1, 1, 0), SnowTalk.UNKNOWN);
        C.due("17: v 0", x.slide(3, 0, 0), SnowTalk.OUTSIDE);
        C.due("17: v 1000", x.slide(3, 1000, 0), SnowTalk.OUTSIDE);
        C.due("17: what 2", x.slide(3, 1, 2), SnowTalk.OUTSIDE);
        C.due("17: what -1", x.slide(3, 1, -1), SnowTalk.OUTSIDE);
        C.deep("17: nothing slides in fact", x, "5 4 1 0 3 6");
        C.due("17: nor into the brook", x.told(2), 0);
    }

    private static void holds() {
        SnowTalk x = new SnowTalk();
        Check.snow(x, 9, 4, 6, 5, 7, 5);
        C.due("18: the shallowest below holds it", x.holds(0), 5);
        C.due("18: not deep enough for that", x.holds(1), SnowTalk.NONE);
        C.due("18: by just so much", x.holds(2), 6);
        C.due("18: not deeper than any below", x.holds(3), SnowTalk.NONE);
        C.due("18: below", x.holds(4), 6);
        C.due("18: the last", x.holds(5), SnowTalk.NONE);
        x.garden(5, 0, 0);
        C.due("18: no snow below", x.holds(3), 1);
        C.due("18: not deep", x.holds(5), SnowTalk.STATE);
        C.due("18: garden 6", x.holds(6), SnowTalk.UNKNOWN);
        C.due("18: garden -1", x.holds(-1), SnowTalk.UNKNOWN);
        Check.snow(x, 999, 998, 999, 999, 999, 999);
        C.due("18: at the edge", x.holds(0), 999);
        x.garden(1, 0, 999);
        C.due("18: over the edge", x.holds(0), SnowTalk.NONE);
    }
}
