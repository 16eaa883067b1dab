/** Part 4 of the document, its first half: sights, who said what, what to measure, laws. Each sentence that names an edge. */
public final class EdgesFourTest {
    private static final Check C = new Check("EdgesFourTest");
    private static final int NONE = SnowTalk.NONE;

    public static void main(String[] args) {
        eightSights();
        sightsAllHold();
        whoCountsRows();
        whoInSomeInAll();
        whoAsItIsNow();
        whoLooksAtNothingElse();
        next();
        nextOfThose();
        lawsFromZeroToFive();
        lawsRise();
        lawsFromNoSnow();
        lawsOfAnyWord();
        C.end();
    }

    private static SnowTalk street(int... deep) {
        SnowTalk x = new SnowTalk();
        x.gardens(deep.length);
        Check.snow(x, deep);
        return x;
    }

    // "SIGHTS, 8 at most: a GARDEN is so DEEP in the morning"; "A SIGHT more: how many"; "SIGHTS go: how many there were"
    private static void eightSights() {
        SnowTalk x = street(0, 0, 0, 0, 0, 0, 0, 0);
        C.due("20: none at first", x.forget(), 0);
        for (int g = 0; g < 8; g++) {
            C.due("19: one more", x.seen(g, g == 0 ? 999 : 0), g + 1);
            C.due("30: so many", x.told(7), g + 1);
        }
        C.due("19: a ninth", x.seen(0, 999), SnowTalk.FULL);
        C.due("19: no garden 8", x.seen(8, 0), SnowTalk.UNKNOWN);
        C.due("30: 8", x.told(7), 8);
        C.due("20: 8 go", x.forget(), 8);
        C.due("30: none", x.told(7), 0);
        C.due("20: none go", x.forget(), 0);
        C.due("19: room again", x.seen(7, 0), 1);
        C.due("19: 1000 deep", x.seen(0, 1000), SnowTalk.OUTSIDE);
        C.due("19: -1 deep", x.seen(0, -1), SnowTalk.OUTSIDE);
        C.due("30: one", x.told(7), 1);
        x.gardens(8);
        C.due("2: as at first, there are none", x.told(7), 0);
    }

    // "by which all SIGHTS hold"
    private static void sightsAllHold() {
        SnowTalk x = street(0, 999);
        C.due("21: no sight, all rows", x.who(0, 0), 1);
        x.seen(1, 999);
        C.due("21: one that holds", x.who(0, 0), 1);
        for (int i = 2; i <= 7; i++) {
            x.seen(i % 2, i % 2 == 0 ? 0 : 999);
        }
        C.due("21: seven that hold", x.who(0, 0), 1);
        x.seen(0, 1);
        C.due("21: an eighth that does not", x.who(0, 0), 0);
        x.forget();
        C.due("21: they are gone", x.who(0, 0), 1);
        x.seen(0, 1);
        x.seen(1, 999);
        C.due("21: the first does not", x.who(0, 0), 0);
    }

    // "rows of m WORDS (0 to 3), each a GARDEN and t or l"; "they are counted as rows"
    private static void whoCountsRows() {
        for (int n = 2; n <= 8; n++) {
            SnowTalk x = new SnowTalk();
            x.gardens(n);
            int rows = 1;
            for (int m = 0; m <= 3; m++) {
                C.due("21: rows of " + m + " in " + n, x.who(m, 0), rows);
                C.due("21: in some", x.who(m, 1), m == 0 ? 0 : (1 << n) - 1);
                C.due("21: in all", x.who(m, 2), 0);
                rows *= 2 * n;
            }
            C.due("21: m 4", x.who(4, 0), SnowTalk.OUTSIDE);
            C.due("21: m -1", x.who(-1, 0), SnowTalk.OUTSIDE);
        }
    }

    private static void fits(SnowTalk x, int m, int rows, int some, int all) {
        C.due("21: rows of " + m, x.who(m, 0), rows);
        C.due("21: rows of " + m + ", in some", x.who(m, 1), some);
        C.due("21: rows of " + m + ", in all", x.who(m, 2), all);
    }

    // "GARDENS in which something was said by some of them, as bits; by all"; "0: there are no rows"
    private static void whoInSomeInAll() {
        SnowTalk x = street(0, 0);
        x.seen(0, 0);
        fits(x, 0, 1, 0, 0);
        fits(x, 1, 2, 2, 2);
        fits(x, 2, 4, 2, 2);
        fits(x, 3, 8, 2, 2);
        x.forget();
        x.seen(0, 1);
        fits(x, 0, 0, 0, 0);
        fits(x, 1, 1, 1, 1);
        // t and t, for a night gives one; t, and t or l in b, in either order.
        fits(x, 2, 1 + 2 + 2, 3, 1);
        x.seen(1, 1);
        fits(x, 2, 1 + 2, 3, 1);
        x.forget();
        x.seen(0, 2);
        x.seen(1, 1);
        // Three t, one row; two t and one t in b, three rows.
        fits(x, 3, 1 + 3, 3, 1);
        x.seen(1, 2);
        fits(x, 3, 0, 0, 0);
        SnowTalk last = street(0, 0, 0, 0, 0, 0, 0, 0);
        last.seen(7, 3);
        fits(last, 1, 1, 128, 128);
        last.seen(0, 2);
        fits(last, 2, 2, 129, 129);
    }

    // "said today as it is now .., and a night behind them"
    private static void whoAsItIsNow() {
        SnowTalk x = street(5, 0);
        x.seen(0, 4);
        fits(x, 0, 1, 0, 0);
        fits(x, 1, 2, 2, 2);
        x.forget();
        x.seen(0, 5);
        fits(x, 0, 0, 0, 0);
        fits(x, 1, 1, 1, 1);
        x.set(0, 2);
        fits(x, 1, 0, 0, 0);
        x.set(1, 1);
        fits(x, 1, 1, 1, 1);
        SnowTalk last = street(0, 5);
        last.seen(1, 5);
        last.seen(0, 0);
        fits(last, 0, 1, 0, 0);
        SnowTalk even = street(2, 0);
        even.seen(0, 1);
        even.seen(1, 1);
        fits(even, 0, 1, 0, 0);
        even.garden(0, 0, 1);
        fits(even, 0, 0, 0, 0);
    }

    // "never AGAIN"; "no ROOFS being looked at, however DEEP it is"
    private static void whoLooksAtNothingElse() {
        SnowTalk x = new SnowTalk();
        x.gardens(2);
        x.set(2, 9);
        Check.tell(x, "aBtbAt");
        x.garden(0, 0, 0);
        x.garden(1, 0, 0);
        x.seen(0, 1);
        fits(x, 1, 1, 1, 1);
        fits(x, 2, 5, 3, 1);
        x.forget();
        x.garden(0, 1, 0);
        x.garden(1, 1, 0);
        fits(x, 1, 4, 3, 0);
        x.garden(0, 0, 30);
        Check.tell(x, "..");
        C.due("21: a roof has fallen", x.state(0, 1), 1);
        fits(x, 3, 64, 3, 0);
        SnowTalk deep = street(999, 0);
        deep.seen(1, 1);
        fits(deep, 1, 2, 1, 1);
        fits(deep, 3, 8, 1, 1);
        SnowTalk both = street(999, 999);
        both.set(0, 9);
        both.set(1, 9);
        fits(both, 3, 64, 3, 0);
        both.seen(0, 999);
        fits(both, 3, 8, 2, 2);
        SnowTalk gives = street(999, 0);
        gives.seen(0, 999);
        fits(gives, 1, 1, 1, 1);
    }

    private static void toMeasure(String when, SnowTalk x, int m, int garden, int left) {
        C.due("22: " + when + ", garden", x.next(m, 0), garden);
        C.due("22: " + when + ", how many", x.next(m, 1), left);
    }

    // "NEXT: the GARDEN to measure (of which there is no SIGHT)"; "NONE: all are seen, or there are no rows"
    private static void next() {
        SnowTalk x = street(0, 0, 0, 0, 0, 0, 0, 0);
        toMeasure("the least", x, 0, 0, 1);
        for (int g = 0; g < 7; g++) {
            x.seen(g, 0);
            toMeasure("not one that is seen", x, 0, g + 1, 1);
        }
        x.seen(7, 0);
        toMeasure("all are seen", x, 0, NONE, NONE);
        C.due("22: though there is a row", x.who(0, 0), 1);
        SnowTalk none = street(0, 0);
        none.seen(0, 9);
        toMeasure("no rows of no words", none, 0, NONE, NONE);
        toMeasure("no rows of one word", none, 1, NONE, NONE);
        none.seen(1, 9);
        toMeasure("neither", none, 1, NONE, NONE);
        C.due("22: m -1", none.next(-1, 0), SnowTalk.OUTSIDE);
        C.due("22: m 4", none.next(4, 0), SnowTalk.OUTSIDE);
        C.due("22: what 2", none.next(0, 2), SnowTalk.OUTSIDE);
        C.due("22: what -1", none.next(0, -1), SnowTalk.OUTSIDE);
    }

    // "so that, whatever it is, fewest of these rows are left at the most: the least; how many"
    private static void nextOfThose() {
        SnowTalk x = street(0, 0);
        // The mornings are 1 0, 2 1, 0 1, 0 3: two at most by either.
        toMeasure("of several the least", x, 1, 0, 2);
        // By a: 5 rows leave 1 there, 4 leave 3, 4 leave none, 2 and 1; by b 6 leave 1.
        toMeasure("rows, not mornings", x, 2, 0, 5);
        x.seen(0, 0);
        toMeasure("of these rows", x, 1, 1, 1);
        toMeasure("of these rows", x, 2, 1, 2);
        x.forget();
        x.seen(1, 1);
        // 1 1 thrice, 3 1 twice, 5 1.
        toMeasure("the other one", x, 2, 0, 3);
        SnowTalk second = street(0, 9);
        second.set(0, 0);
        // In a: 0 by three rows, 3 by one; in b: 9 by three, 12 by one.
        toMeasure("as many by either", second, 1, 0, 3);
        SnowTalk deep = street(9, 0);
        deep.set(1, 1);
        // In a: 9 and 9, 8 and 8; in b: 1 and 1, 2 and 2.
        toMeasure("two by either", deep, 1, 0, 2);
        SnowTalk later = street(0, 1);
        later.set(0, 1);
        later.set(1, 2);
        // 1 1, 2 1, 0 2, 0 3: in a none twice, in b 1 twice; a LIE gives nothing to the one below.
        toMeasure("no night gives", later, 1, 0, 2);
        SnowTalk lower = street(1, 0, 0);
        // a t 1 1 0, a l 3 1 0, b t 1 1 0, b l 1 2 1, c t 1 0 1, c l 1 0 3: a five of 1; b three of 1; c three of 0.
        toMeasure("the least of two that are better than the first", lower, 1, 1, 3);
    }

    private static SnowTalk talk(String text, int... sights) {
        SnowTalk x = Check.with(text);
        for (int i = 0; i < sights.length; i += 2) {
            x.seen(sights[i], sights[i + 1]);
        }
        return x;
    }

    // "numbers for TRUE, LIE, AGAIN (0 to 5 each)"
    private static void lawsFromZeroToFive() {
        for (int v = 0; v <= 6; v++) {
            C.due("23: TRUE " + v, talk("aBt", 0, v).laws(-1), v > 5 ? 0 : 36);
            C.due("23: TRUE " + v + ", the first", talk("aBt", 0, v).laws(0), v > 5 ? NONE : 100 * v);
            C.due("23: LIE " + v, talk("aBl", 0, v).laws(-1), v > 5 ? 0 : 36);
            C.due("23: LIE " + v + ", the first", talk("aBl", 0, v).laws(0), v > 5 ? NONE : 10 * v);
            C.due("23: AGAIN " + v, talk("aBtaBtbAt", 0, v, 1, 0).laws(-1), v > 5 ? 0 : 6);
            C.due("23: AGAIN " + v + ", the first", talk("aBtaBtbAt", 0, v, 1, 0).laws(0), v > 5 ? NONE : v);
        }
        C.due("23: the most of twenty words", talk("aBt".repeat(20), 0, 195).laws(0), 505);
        C.due("23: not more", talk("aBt".repeat(20), 0, 196).laws(-1), 0);
    }

    // "how many; the i-th (100 times TRUE, 10 times LIE and AGAIN, rising)"; "how many (i = -1), the i-th; NONE"
    private static void lawsRise() {
        SnowTalk x = talk("aBtaBt", 0, 2);
        int[] due = {2, 12, 22, 32, 42, 52, 100, 110, 120, 130, 140, 150};
        C.due("23: how many", x.laws(-1), due.length);
        for (int i = 0; i < due.length; i++) {
            C.due("23: law " + i, x.laws(i), due[i]);
        }
        for (int i : new int[] {12, 13, 216, -2, Integer.MIN_VALUE, Integer.MAX_VALUE}) {
            C.due("23: no law " + i, x.laws(i), NONE);
        }
        SnowTalk all = talk("aBtcAl.wbA+b*");
        C.due("23: without sights all fit", all.laws(-1), 216);
        for (int i = 0; i < 216; i++) {
            C.due("23: of all, law " + i, all.laws(i), 100 * (i / 36) + 10 * (i / 6 % 6) + i % 6);
        }
        C.due("23: no 216th", all.laws(216), NONE);
        C.due("23: one fits", talk("aBtbAlcAtcAt", 0, 5, 1, 5, 2, 15).laws(-1), 1);
        C.due("23: that one", talk("aBtbAlcAtcAt", 0, 5, 1, 5, 2, 15).laws(0), 555);
        C.due("23: none further", talk("aBtbAlcAtcAt", 0, 5, 1, 5, 2, 15).laws(1), NONE);
        C.due("23: all sights must hold", talk("aBt", 0, 1, 0, 2).laws(-1), 0);
    }

    // "from no snow at all, nothing said ahead of it"; "no ROOFS"
    private static void lawsFromNoSnow() {
        C.due("23: no words, no snow", talk("", 0, 0, 5, 0).laws(-1), 216);
        C.due("23: no words, some snow", talk("", 0, 1).laws(-1), 0);
        SnowTalk x = new SnowTalk();
        Check.tell(x, "aBlaBl");
        x.garden(0, 1, 0);
        x.garden(3, 0, 999);
        x.set(0, 9);
        x.set(1, 9);
        x.set(2, 9);
        x.seen(0, 4);
        x.seen(3, 0);
        Check.write(x, "aBt");
        C.due("23: not again, on no snow", x.laws(-1), 36);
        C.due("23: the first", x.laws(0), 400);
        C.due("23: no night is added", talk("aBt", 0, 4, 1, 0).laws(0), 400);
        C.due("23: one on the pad is done", talk("aBt.", 0, 4, 1, 1).laws(0), 500);
        C.due("23: a thaw on the pad, too", talk("aBtw", 0, 2).laws(0), 500);
        C.due("23: with no snow left by 0 to 3", talk("aBtw", 0, 0).laws(-1), 4 * 36);
        // 2 are left of 5, then 5 more, not again.
        C.due("23: nothing is said again behind it", talk("aBtwaBt", 0, 7).laws(-1), 36);
    }

    // "any WORD can be"
    private static void lawsOfAnyWord() {
        C.due("23: of one in his own garden", talk("aAt", 0, 3).laws(0), 300);
        C.due("23: said again there", talk("aAlaAl", 0, 15).laws(0), 55);
        C.due("23: a good word on no snow", talk("aB+", 0, 0).laws(-1), 216);
        C.due("23: in his own garden", talk("aBtaA+", 0, 1).laws(0), 500);
        C.due("23: salt on no snow", talk("b*aBt", 0, 5).laws(0), 500);
        C.due("23: salt", talk("aBtb*", 0, 4, 1, 0, 2, 0).laws(0), 500);
        SnowTalk x = talk("aBtaC+", 0, 4);
        C.due("23: SHOVEL is as it is, 4", x.laws(-1), 0);
        x.set(3, 1);
        C.due("23: 1", x.laws(-1), 36);
        C.due("23: 1, the first", x.laws(0), 500);
    }
}
