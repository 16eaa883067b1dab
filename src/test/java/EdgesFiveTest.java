/** Part 4 of the document, its second half: guests, roofs to build, lies elsewhere, winters, images. Each edge named. */
public final class EdgesFiveTest {
    private static final Check C = new Check("EdgesFiveTest");
    private static final int NONE = SnowTalk.NONE;

    public static void main(String[] args) {
        guestsByTenths();
        guestsByEvenings();
        guestsRoof();
        guestsNeverAgain();
        guestsInLowestTerms();
        buildAByB();
        buildUpTo999();
        buildIsTheLeast();
        elsewhere();
        winterEnds();
        winterIsATalk();
        winterFromAllAsItIs();
        winterNumbers();
        images();
        imagesOfAll();
        told();
        C.end();
    }

    private static void chance(String when, SnowTalk x, int g, int t, int m, long upper, long lower) {
        C.due("24: " + when + ", upper", x.guests(g, t, m, 0), upper);
        C.due("24: " + when + ", lower", x.guests(g, t, m, 1), lower);
    }

    private static SnowTalk roof(int bears, int deep) {
        SnowTalk x = new SnowTalk();
        x.garden(0, 1, bears);
        x.garden(0, 0, deep);
        return x;
    }

    // "somebody comes with t tenths (0 to 10)"
    private static void guestsByTenths() {
        SnowTalk x = roof(2, 0);
        long[] upper = {1, 9, 4, 7, 3, 1, 2, 3, 1, 1, 0};
        long[] lower = {1, 10, 5, 10, 5, 2, 5, 10, 5, 10, 1};
        for (int t = 0; t <= 10; t++) {
            chance("no lie in one evening, " + t + " tenths", x, 0, t, 1, upper[t], lower[t]);
        }
        C.due("24: -1 tenths", x.guests(0, -1, 1, 0), SnowTalk.LOST + SnowTalk.OUTSIDE);
        C.due("24: 11 tenths", x.guests(0, 11, 1, 0), SnowTalk.LOST + SnowTalk.OUTSIDE);
        C.due("24: LOST and the refusal", x.guests(0, 11, 1, 1), -1000000000000000002L);
        C.due("24: LOST and the refusal", x.guests(6, 1, 1, 1), -1000000000000000001L);
    }

    // "each of m evenings (0 to 12), each by itself"
    private static void guestsByEvenings() {
        SnowTalk x = roof(2, 0);
        long lower = 1;
        for (int m = 0; m <= 12; m++) {
            chance("no lie in " + m + " evenings", x, 0, 5, m, 1, lower);
            lower *= 2;
        }
        C.due("24: -1 evenings", x.guests(0, 5, -1, 0), SnowTalk.LOST + SnowTalk.OUTSIDE);
        C.due("24: 13 evenings", x.guests(0, 5, 13, 0), SnowTalk.LOST + SnowTalk.OUTSIDE);
        chance("six of twelve at most", new SnowTalk(), 0, 5, 12, 1255, 2048);
        chance("all of twelve", roof(36, 0), 0, 7, 12, 1, 1);
        chance("all but twelve of twelve", roof(35, 0), 0, 1, 12, 999999999999L, 1000000000000L);
        chance("all but twelve of twelve", roof(35, 0), 0, 9, 12, 717570463519L, 1000000000000L);
        chance("none of twelve", roof(2, 0), 0, 9, 12, 1, 1000000000000L);
        chance("twelve for sure", roof(36, 0), 0, 10, 12, 1, 1);
        chance("twelve for sure, not borne", roof(35, 0), 0, 10, 12, 0, 1);
    }

    // "that its ROOF, which has not fallen, bears all of it (fallen: 0)"
    private static void guestsRoof() {
        chance("it bears just that", roof(9, 6), 0, 10, 1, 1, 1);
        chance("one more lies there", roof(9, 7), 0, 10, 1, 0, 1);
        chance("it bears what lies there", roof(9, 9), 0, 5, 0, 1, 1);
        chance("less than lies there", roof(9, 10), 0, 5, 0, 0, 1);
        chance("less than lies there, nobody comes", roof(9, 10), 0, 0, 12, 0, 1);
        chance("a roof of 0", roof(0, 0), 0, 5, 1, 1, 2);
        chance("999 deep", roof(999, 999), 0, 5, 1, 1, 2);
        SnowTalk x = roof(9, 30);
        Check.tell(x, ".");
        x.garden(0, 0, 0);
        chance("it has fallen, without snow", x, 0, 0, 0, 0, 1);
        chance("it has fallen, nobody comes", x, 0, 0, 12, 0, 1);
        chance("another has not", x, 5, 10, 6, 1, 1);
        chance("another, one lie more", x, 5, 10, 7, 0, 1);
        x.garden(0, 1, 3);
        chance("a new roof has not", x, 0, 5, 1, 1, 1);
    }

    // "there is a LIE in a GARDEN (never AGAIN; nothing else)"
    private static void guestsNeverAgain() {
        SnowTalk x = new SnowTalk();
        x.set(2, 9);
        Check.tell(x, "aBlaCl");
        x.garden(0, 0, 0);
        x.garden(0, 1, 36);
        chance("never again", x, 0, 10, 12, 1, 1);
        x.garden(0, 1, 35);
        chance("but a LIE each", x, 0, 10, 12, 0, 1);
        x.set(1, 9);
        x.garden(0, 1, 108);
        chance("of nine flakes", x, 0, 10, 12, 1, 1);
        x.garden(0, 1, 107);
        chance("of nine flakes, not all", x, 0, 10, 12, 0, 1);
        x.set(1, 0);
        x.garden(0, 1, 0);
        chance("of none", x, 0, 10, 12, 1, 1);
        x.set(1, 3);
        x.garden(0, 0, 9);
        x.garden(0, 1, 9);
        chance("no night takes anything", x, 0, 10, 1, 0, 1);
        x.gardens(8);
        x.garden(7, 1, 2);
        chance("the last of eight", x, 7, 1, 1, 9, 10);
        C.due("24: no garden 8", x.guests(8, 1, 1, 0), SnowTalk.LOST + SnowTalk.UNKNOWN);
    }

    // "Fractions are told in lowest terms by part: 0 the upper, 1 the lower number"
    private static void guestsInLowestTerms() {
        for (int t = 0; t <= 10; t++) {
            for (int m = 0; m <= 12; m++) {
                SnowTalk x = roof(8, 0);
                long upper = x.guests(0, t, m, 0);
                long lower = x.guests(0, t, m, 1);
                String name = "24: guests(0, " + t + ", " + m + ")";
                C.due(name + " in lowest terms", divisor(upper, lower), 1);
                C.holds(name + " is of 0 to 1", upper >= 0 && upper <= lower && lower >= 1);
                C.due(name + " of ten to the m", power(10, m) % lower, 0);
                C.due(name + " is as one by one", upper * (power(10, m) / lower), borne(t, m, 2));
            }
        }
        C.due("24: part -1", roof(8, 0).guests(0, 5, 5, -1), SnowTalk.LOST + SnowTalk.OUTSIDE);
        C.due("24: part 2", roof(8, 0).guests(0, 5, 5, 2), SnowTalk.LOST + SnowTalk.OUTSIDE);
    }

    /** Evening by evening: so many of ten to the m have at most that many lies. */
    private static long borne(int t, int m, int most) {
        if (most < 0) {
            return 0;
        }
        return m == 0 ? 1 : t * borne(t, m - 1, most - 1) + (10 - t) * borne(t, m - 1, most);
    }

    private static long power(long base, int exponent) {
        return exponent == 0 ? 1 : base * power(base, exponent - 1);
    }

    private static long divisor(long a, long b) {
        return b == 0 ? a : divisor(b, a % b);
    }

    // "so that this is a by b (b 1 to 100, a 0 to b) at least"
    private static void buildAByB() {
        SnowTalk x = new SnowTalk();
        C.due("25: 90 by 100", x.build(0, 1, 1, 90, 100), 0);
        C.due("25: 91 by 100", x.build(0, 1, 1, 91, 100), 3);
        C.due("25: 9 by 10", x.build(0, 1, 1, 9, 10), 0);
        C.due("25: 10 by 11", x.build(0, 1, 1, 10, 11), 3);
        C.due("25: 100 by 100", x.build(0, 1, 1, 100, 100), 3);
        C.due("25: 1 by 1", x.build(0, 1, 1, 1, 1), 3);
        C.due("25: 1 by 100 of what is sure", x.build(0, 10, 12, 1, 100), 36);
        C.due("25: 0 by 100 of what is sure", x.build(0, 10, 12, 0, 100), 0);
        C.due("25: 0 by 1", x.build(0, 10, 12, 0, 1), 0);
        C.due("25: 99 by 100, a chance of 0.99", x.build(0, 1, 2, 99, 100), 3);
        C.due("25: 100 by 100", x.build(0, 1, 2, 100, 100), 6);
        C.due("25: nobody comes", x.build(0, 0, 12, 1, 1), 0);
        C.due("25: no evening", x.build(0, 10, 0, 1, 1), 0);
        C.due("25: b 0", x.build(0, 1, 1, 0, 0), SnowTalk.OUTSIDE);
        C.due("25: b 101", x.build(0, 1, 1, 1, 101), SnowTalk.OUTSIDE);
        C.due("25: a over b", x.build(0, 1, 1, 2, 1), SnowTalk.OUTSIDE);
        C.due("25: a -1", x.build(0, 1, 1, -1, 1), SnowTalk.OUTSIDE);
        C.due("25: t 11", x.build(0, 11, 1, 1, 1), SnowTalk.OUTSIDE);
        C.due("25: t -1", x.build(0, -1, 1, 1, 1), SnowTalk.OUTSIDE);
        C.due("25: m 13", x.build(0, 1, 13, 1, 1), SnowTalk.OUTSIDE);
        C.due("25: m -1", x.build(0, 1, -1, 1, 1), SnowTalk.OUTSIDE);
        C.due("25: no garden 6", x.build(6, 1, 1, 1, 1), SnowTalk.UNKNOWN);
    }

    // "the least number a new ROOF must bear (0 to 999) ..; NONE"
    private static void buildUpTo999() {
        SnowTalk x = new SnowTalk();
        x.garden(0, 0, 999);
        C.due("25: 999, nobody comes", x.build(0, 0, 1, 1, 1), 999);
        C.due("25: 999, often enough", x.build(0, 5, 1, 1, 2), 999);
        C.due("25: not often enough", x.build(0, 5, 1, 51, 100), NONE);
        C.due("25: 0 by b needs nothing", x.build(0, 5, 1, 0, 2), 0);
        x.garden(0, 0, 996);
        C.due("25: one LIE more, 999", x.build(0, 5, 1, 51, 100), 999);
        C.due("25: two LIES more", x.build(0, 5, 2, 1, 1), NONE);
        x.set(2, 9);
        Check.tell(x, "aBlw");
        C.due("25: never again", x.build(0, 10, 1, 1, 1), 999);
        C.due("25: the old roof has fallen", x.state(0, 1), 1);
        x.set(1, 0);
        C.due("25: by no flakes", x.build(0, 10, 12, 1, 1), 996);
        C.due("25: another garden", x.build(5, 10, 12, 1, 1), 0);
    }

    /** The new roof does it by what guests() tells, and one that bears one less does not. */
    private static void buildIsTheLeast() {
        for (int t = 0; t <= 10; t++) {
            for (int m = 0; m <= 12; m += 3) {
                SnowTalk x = new SnowTalk();
                x.garden(2, 0, 4);
                for (int a = 1; a <= 7; a += 2) {
                    int bears = x.build(2, t, m, a, 7);
                    x.garden(2, 1, bears);
                    C.holds("25: enough: " + bears, x.guests(2, t, m, 0) * 7 >= x.guests(2, t, m, 1) * a);
                    x.garden(2, 1, bears - 1);
                    C.holds("25: least: " + bears, x.guests(2, t, m, 0) * 7 < x.guests(2, t, m, 1) * a);
                }
            }
        }
    }

    // "at first in the one below his (the last one in the one above)"; "the last one, in which nobody does, counts, too"
    private static void elsewhere() {
        for (int n = 2; n <= 8; n++) {
            SnowTalk x = new SnowTalk();
            x.gardens(n);
            // But for two, the last one finds the first garden empty and goes there; then nobody goes.
            C.due("26: rounds of " + n, x.elsewhere(-1), n == 2 ? 1 : 2);
            for (int g = 0; g < n; g++) {
                C.due("26: of " + n + " in " + g, x.elsewhere(g), 1);
            }
            C.due("26: no garden " + n, x.elsewhere(n), SnowTalk.UNKNOWN);
            C.due("26: no garden -2", x.elsewhere(-2), SnowTalk.UNKNOWN);
        }
        SnowTalk x = Everything.rich("");
        C.due("26: snow does not count", x.elsewhere(-1), 2);
        C.due("26: nor roofs", x.elsewhere(1), 1);
    }

    private static void ends(String when, SnowTalk x, int seed, int m, int... due) {
        for (int what = 0; what < 3; what++) {
            C.due("27: " + when + ", " + what, x.winter(seed, m, what), due[what]);
        }
    }

    // "by a seed (0 to 9999) of m WORDS (1 to 99)"
    private static void winterEnds() {
        SnowTalk x = new SnowTalk();
        // 9999 gives 749999, left over by 65537 29092: by 8 left over 4, 3636 left over 0, 454 left over 4: t in a of E.
        ends("the last seed", x, 9999, 1, 1, 0, 0);
        Check.tell(x, "aEl");
        ends("the last seed, said before", x, 9999, 1, 5, 0, 0);
        C.due("27: 10000", x.winter(10000, 1, 0), SnowTalk.OUTSIDE);
        C.due("27: -1", x.winter(-1, 1, 0), SnowTalk.OUTSIDE);
        C.due("27: m 0", x.winter(0, 0, 0), SnowTalk.OUTSIDE);
        C.due("27: m 100", x.winter(0, 100, 0), SnowTalk.OUTSIDE);
        C.due("27: what 3", x.winter(0, 1, 3), SnowTalk.OUTSIDE);
        C.due("27: what -1", x.winter(0, 1, -1), SnowTalk.OUTSIDE);
        // 873 gives 65549, left over by 65537 12: by 8 left over 4: t in b of A.
        ends("over the wrap", new SnowTalk(), 873, 1, 1, 0, 0);
        // 872 gives 65474: left over 2, 8184 left over 0, 1023 left over 3: a good word in a of D.
        SnowTalk under = new SnowTalk();
        under.garden(0, 0, 9);
        ends("under the wrap", under, 872, 1, 5, 0, 0);
    }

    /** A winter is a talk of the words that its draws tell, but for those that can not be. */
    private static void winterIsATalk() {
        for (int seed : new int[] {0, 1, 2, 77, 872, 873, 4321, 9998, 9999}) {
            for (int m : new int[] {1, 2, 40, 99}) {
                compare(new SnowTalk(), new SnowTalk(), seed, m, 6);
            }
            for (int n : new int[] {2, 3, 8}) {
                SnowTalk asked = new SnowTalk();
                SnowTalk told = new SnowTalk();
                asked.gardens(n);
                told.gardens(n);
                compare(asked, told, seed, 95, n);
            }
        }
    }

    /** Says the draws one by one in the other object: at most five calls each. */
    private static void compare(SnowTalk asked, SnowTalk told, int seed, int m, int n) {
        int x = seed;
        for (int i = 0; i < m; i++) {
            x = (75 * x + 74) % 65537;
            String word = "" + (char) ('a' + x / 8 % n) + (char) ('A' + x / 64 % n) + "..+ttlll".charAt(x % 8);
            String text = x % 8 == 0 ? "." : x % 8 == 1 ? "w" : word;
            for (int k = 0; k < text.length(); k++) {
                told.say(text.charAt(k));
            }
            if (told.done() == SnowTalk.NO) {
                told.wipe();
            }
        }
        int deep = 0;
        int fallen = 0;
        for (int g = 0; g < n; g++) {
            deep += told.state(g, 0);
            fallen |= told.state(g, 1) << g;
        }
        ends("seed " + seed + ", " + m + " words, " + n + " gardens", asked, seed, m, deep, fallen, told.told(2));
    }

    // "from all as it is"; "Nothing is DONE in fact"
    private static void winterFromAllAsItIs() {
        for (int seed = 0; seed < 30; seed++) {
            compare(Everything.rich(""), Everything.rich(""), seed, 60, 7);
        }
        SnowTalk x = Everything.rich("aBt");
        // 149: a LIE in e of C, by 4; b had fallen, f falls behind it; the brook had 3.
        ends("from all as it is", x, 1, 1, 45 + 4, 1 << 1 | 1 << 5, 3);
        C.deep("27: nothing is done in fact", x, "7 3 0 4 4 25 2");
        C.due("27: the pad is not in it", x.told(0), 3);
    }

    // "by x left over by 8: 0 a night, 1 a thaw, 2 a good WORD, else (3, 4 t, 5 on l)"
    private static void winterNumbers() {
        int[] seeds = {2, 5, 0, 3, 6, 1, 4, 7};
        int[] draws = {224, 449, 74, 299, 524, 149, 374, 599};
        for (int i = 0; i < 8; i++) {
            C.due("27: the draw of seed " + seeds[i], 75 * seeds[i] + 74, draws[i]);
            C.due("27: left over by 8", draws[i] % 8, i);
        }
        // All gardens 5 deep; roofs of 5. The gardens of the words: 74 d, 299 b, 524 f, 149 a, 374 e, 599 c.
        int[] deep = {30, 12, 26, 31, 31, 33, 33, 33};
        int[] fallen = {0, 0, 0, 1 << 1, 1 << 5, 1, 1 << 4, 1 << 2};
        int[] brook = {0, 18, 0, 0, 0, 0, 0, 0};
        for (int i = 0; i < 8; i++) {
            SnowTalk x = new SnowTalk();
            for (int g = 0; g < 6; g++) {
                x.garden(g, 0, 5);
                x.garden(g, 1, 5);
            }
            ends("left over " + i, x, seeds[i], 1, deep[i], fallen[i], brook[i]);
        }
        SnowTalk own = new SnowTalk();
        // 4499: left over 3; 562 left over 4; 70 left over 4: a t in e of E.
        ends("if that can be", own, 59, 1, 0, 0, 0);
        own.garden(0, 0, 30);
        ends("no roof falls behind what can not be", own, 59, 1, 30, 0, 0);
        ends("but behind what can", own, 2, 1, 30, 1, 0);
    }

    // "All but the PAD is kept in an IMAGE (0, 1)"; "It is as it was when it was kept"; "STATE: it was not"
    private static void images() {
        SnowTalk x = new SnowTalk();
        C.due("29: 0 was not kept", x.restore(0), SnowTalk.STATE);
        C.due("29: 1 was not kept", x.restore(1), SnowTalk.STATE);
        C.due("28: -1", x.image(-1), SnowTalk.OUTSIDE);
        C.due("28: 2", x.image(2), SnowTalk.OUTSIDE);
        C.due("29: -1", x.restore(-1), SnowTalk.OUTSIDE);
        C.due("29: 2", x.restore(2), SnowTalk.OUTSIDE);
        C.due("28: 0", x.image(0), 1);
        C.due("29: 1 was not kept yet", x.restore(1), SnowTalk.STATE);
        C.due("28: 1", x.image(1), 1);
        C.due("29: 0", x.restore(0), 1);
        C.due("29: 1", x.restore(1), 1);
        x.garden(0, 0, 5);
        x.image(1);
        x.garden(0, 0, 6);
        C.due("29: 0 again", x.restore(0), 1);
        C.due("29: as it was", x.state(0, 0), 0);
        C.due("29: 1 again", x.restore(1), 1);
        C.due("29: kept anew", x.state(0, 0), 5);
        x.gardens(8);
        C.due("2: IMAGES stay", x.restore(1), 1);
        C.due("29: with its gardens", x.told(1), 6);
        C.due("29: and its snow", x.state(0, 0), 5);
        SnowTalk other = new SnowTalk();
        C.due("29: another object's are its own", other.restore(1), SnowTalk.STATE);
    }

    private static void imagesOfAll() {
        SnowTalk x = Everything.rich("aB");
        x.image(1);
        x.gardens(2);
        C.due("29: the pad is not kept: two signs", x.told(0), 2);
        Check.write(x, "bAl");
        x.restore(1);
        C.due("29: nor given back", x.told(0), 3);
        C.due("29: of what is there now", x.fault(), NONE);
        x.restore(0);
        C.due("29: five gardens", x.told(1), 5);
        C.due("29: TRUE", x.told(3), 9);
        C.due("29: LIE", x.told(4), 8);
        C.due("29: AGAIN", x.told(5), 7);
        C.due("29: SHOVEL", x.told(6), 6);
        C.due("29: the brook", x.told(2), 3);
        C.due("29: sights", x.told(7), 1);
        C.deep("29: snow", x, "0 0 14 0 0");
        C.due("29: of whom", x.recognised(2), 1);
        Check.tell(x, "cBtcAt");
        C.due("29: of B again, of A not", x.state(2, 0), 14 + 9 + 7 + 9);
    }

    // "0 signs, 1 GARDENS, 2 the BROOK, 3 TRUE, 4 LIE, 5 AGAIN, 6 SHOVEL, 7 SIGHTS, 10 and a GARDEN: its ROOF"
    private static void told() {
        for (int n = 2; n <= 8; n++) {
            SnowTalk x = new SnowTalk();
            x.gardens(n);
            int[] due = {0, n, 0, 1, 3, 1, 4, 0, SnowTalk.OUTSIDE, SnowTalk.OUTSIDE};
            for (int what = 0; what < due.length; what++) {
                C.due("30: told(" + what + ")", x.told(what), due[what]);
            }
            for (int g = 0; g < n; g++) {
                x.garden(g, 1, 100 + g);
            }
            for (int g = 0; g < 10; g++) {
                C.due("30: told(" + (10 + g) + ") of " + n, x.told(10 + g), g < n ? 100 + g : SnowTalk.OUTSIDE);
            }
            C.due("30: told(-1)", x.told(-1), SnowTalk.OUTSIDE);
        }
        SnowTalk x = Everything.rich("aBt");
        C.due("30: a roof that has fallen bore 3", x.told(11), 3);
        C.due("30: signs", x.told(0), 3);
        C.due("30: the brook", x.told(2), 3);
        C.due("30: sights", x.told(7), 2);
    }
}
