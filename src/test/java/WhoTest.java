/** Promises 19 to 23: seen, forget, who, next, laws. */
public final class WhoTest {
    private static final Check C = new Check("WhoTest");

    public static void main(String[] args) {
        seenAndForget();
        whoRefuses();
        who();
        whoFromHere();
        next();
        laws();
        lawsOfWords();
        C.end();
    }

    private static void seenAndForget() {
        SnowTalk x = new SnowTalk();
        C.due("20: nothing seen", x.forget(), 0);
        C.due("19: garden 6", x.seen(6, 1000), SnowTalk.UNKNOWN);
        C.due("19: garden -1", x.seen(-1, 0), SnowTalk.UNKNOWN);
        C.due("19: 1000 deep", x.seen(0, 1000), SnowTalk.OUTSIDE);
        C.due("19: -1 deep", x.seen(0, -1), SnowTalk.OUTSIDE);
        for (int i = 1; i <= 8; i++) {
            C.due("19: sight " + i, x.seen(0, i == 1 ? 999 : 0), i);
        }
        C.due("19: a ninth", x.seen(0, 0), SnowTalk.FULL);
        C.due("19: a ninth that is none", x.seen(0, 1000), SnowTalk.OUTSIDE);
        C.due("19: told", x.told(7), 8);
        C.due("20: all go", x.forget(), 8);
        C.due("20: none left", x.forget(), 0);
        C.due("20: told", x.told(7), 0);
    }

    private static void whoRefuses() {
        SnowTalk x = new SnowTalk();
        C.due("21: m -1", x.who(-1, 0), SnowTalk.OUTSIDE);
        C.due("21: m 4", x.who(4, 0), SnowTalk.OUTSIDE);
        C.due("21: what -1", x.who(0, -1), SnowTalk.OUTSIDE);
        C.due("21: what 3", x.who(0, 3), SnowTalk.OUTSIDE);
        C.due("22: m -1", x.next(-1, 0), SnowTalk.OUTSIDE);
        C.due("22: m 4", x.next(4, 0), SnowTalk.OUTSIDE);
        C.due("22: what -1", x.next(0, -1), SnowTalk.OUTSIDE);
        C.due("22: what 2", x.next(0, 2), SnowTalk.OUTSIDE);
    }

    private static void fits(String when, SnowTalk x, int m, int count, int some, int all) {
        C.due("21: " + when + ", how many", x.who(m, 0), count);
        C.due("21: " + when + ", in some", x.who(m, 1), some);
        C.due("21: " + when + ", in all", x.who(m, 2), all);
    }

    private static void who() {
        SnowTalk x = new SnowTalk();
        x.gardens(3);
        fits("no words", x, 0, 1, 0, 0);
        fits("any word", x, 1, 6, 7, 0);
        fits("any two", x, 2, 36, 7, 0);
        fits("any three", x, 3, 216, 7, 0);
        x.seen(0, 2);
        fits("a LIE and a night", x, 1, 1, 1, 1);
        // A LIE in 0, and t or l in 2 or t in 1: beside a LIE in 1 it would give nothing.
        fits("a row is counted in each order", x, 2, 2 * 3, 7, 1);
        x.seen(1, 1);
        fits("two sights", x, 2, 2 * 2, 5, 5);
        x.seen(2, 3);
        fits("three sights", x, 2, 2, 5, 5);
        x.seen(2, 2);
        fits("sights that can not both be", x, 2, 0, 0, 0);
        fits("none fits", x, 0, 0, 0, 0);
    }

    private static void whoFromHere() {
        SnowTalk x = new SnowTalk();
        x.gardens(2);
        x.garden(0, 0, 998);
        x.garden(0, 1, 0);
        Check.tell(x, "aBt");
        x.seen(0, 999);
        x.garden(1, 0, 999);
        fits("never again, from as it is, no edge at 999", x, 1, 2, 2, 2);
        x.forget();
        x.garden(1, 0, 0);
        x.seen(0, 999);
        fits("a night takes one", x, 1, 1, 1, 1);
        C.due("21: nothing is said", x.state(0, 0), 999);
        x.forget();
        x.set(0, 0);
        x.set(1, 0);
        x.seen(0, 998);
        fits("words without flakes are words", x, 3, 64, 3, 0);
        fits("one of them", x, 1, 4, 3, 0);
    }

    private static void next() {
        SnowTalk x = new SnowTalk();
        C.due("22: one row, the least garden", x.next(0, 0), 0);
        C.due("22: one row", x.next(0, 1), 1);
        C.due("22: garden 1 tells most", x.next(1, 0), 1);
        C.due("22: nine left at the most", x.next(1, 1), 9);
        x.seen(1, 0);
        C.due("22: not one that is seen", x.next(1, 0), 3);
        C.due("22: six left", x.next(1, 1), 6);
        x.forget();
        x.seen(0, 9);
        C.due("22: no rows", x.next(1, 0), SnowTalk.NONE);
        C.due("22: no rows, how many", x.next(1, 1), SnowTalk.NONE);
        x.gardens(2);
        x.garden(0, 0, 100);
        C.due("22: where it is deep", x.next(1, 0), 0);
        C.due("22: two give one each", x.next(1, 1), 2);
        x.gardens(2);
        x.seen(1, 0);
        C.due("22: the one left", x.next(0, 0), 0);
        x.seen(0, 0);
        C.due("22: all are seen", x.next(0, 0), SnowTalk.NONE);
        C.due("22: all are seen, how many", x.next(0, 1), SnowTalk.NONE);
        C.due("22: though there is a row", x.who(0, 0), 1);
    }

    private static void lawsAre(String text, int[] sights, int... laws) {
        SnowTalk x = Check.with(text);
        for (int i = 0; i < sights.length; i += 2) {
            x.seen(sights[i], sights[i + 1]);
        }
        C.due("23: laws of " + text, x.laws(-1), laws.length);
        for (int i = 0; i < laws.length; i++) {
            C.due("23: law " + i + " of " + text, x.laws(i), laws[i]);
        }
        C.due("23: no further law of " + text, x.laws(laws.length), SnowTalk.NONE);
    }

    private static int[] sights(int... numbers) {
        return numbers;
    }

    private static void laws() {
        SnowTalk x = new SnowTalk();
        C.due("23: all fit", x.laws(-1), 216);
        C.due("23: the first", x.laws(0), 0);
        C.due("23: rising", x.laws(6), 10);
        C.due("23: rising", x.laws(36), 100);
        C.due("23: the last", x.laws(215), 555);
        C.due("23: none further", x.laws(216), SnowTalk.NONE);
        C.due("23: laws(-2)", x.laws(-2), SnowTalk.NONE);
        Check.write(x, "aB");
        C.due("23: a fault", x.laws(-1), SnowTalk.NO);
        C.due("23: a fault, the 999th", x.laws(999), SnowTalk.NO);
        lawsAre("aBtbAl", sights(0, 2, 1, 3), 230, 231, 232, 233, 234, 235);
        lawsAre("aBtbAlaBtbCl", sights(0, 7, 1, 6), 135, 233, 331);
        lawsAre("aBt", sights(0, 6));
        lawsAre("aBt", sights(1, 1));
        lawsAre("aBtbAlaBt", sights(0, 10, 1, 5), 354, 452, 550);
    }

    private static void lawsOfWords() {
        // From no snow, nothing said ahead; what is there now is not looked at, nor are roofs.
        SnowTalk x = new SnowTalk();
        x.garden(0, 1, 0);
        Check.tell(x, "aBl");
        x.set(0, 9);
        x.seen(0, 4);
        x.seen(1, 0);
        Check.write(x, "aBt");
        C.due("23: from no snow", x.laws(0), 400);
        C.due("23: any LIE, any AGAIN", x.laws(-1), 36);
        C.due("23: the numbers stay", x.told(3), 9);
        C.due("23: the snow stays", x.state(0, 0), 3);
        // A word of one in his own garden, a shovel, salt where there is no snow: any word can be.
        lawsAre("aAtaB+b*aAlbAt", sights(0, 3, 1, 5), 503, 512, 521, 530);
        lawsAre("aBtwaBtbClaBt", sights(0, 5, 1, 0), 5, 103, 201);
        lawsAre("aBl.bAt", sights(0, 4, 1, 4), 350, 351, 352, 353, 354, 355);
        SnowTalk y = Check.with("aBlaB+");
        y.set(3, 2);
        y.seen(0, 3);
        C.due("23: SHOVEL as it is", y.laws(0), 50);
        C.due("23: SHOVEL as it is, how many", y.laws(-1), 36);
    }
}
