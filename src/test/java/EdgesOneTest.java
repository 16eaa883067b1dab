/** Part 1 of the document: gardens, the pad, words, nights, thaws, roofs. Each sentence that names an edge. */
public final class EdgesOneTest {
    private static final Check C = new Check("EdgesOneTest");

    public static void main(String[] args) {
        gardensTwoToEight();
        neighbours();
        deepUpTo999();
        roofs();
        flakes();
        shovel();
        padOfSixty();
        again();
        goodWords();
        salt();
        faultSignBySign();
        faultPlaces();
        emptyPad();
        nights();
        thaws();
        roofsBehindEachWord();
        reasonOne();
        reasonTwo();
        reasonThree();
        C.end();
    }

    // "GARDENS 0 to n less 1 (a on; n 2 to 8; 6 at first)"
    private static void gardensTwoToEight() {
        C.due("6 at first", new SnowTalk().told(1), 6);
        C.due("6 at first, as gardens() tells it", new SnowTalk().gardens(2), 6);
        for (int n = 2; n <= 8; n++) {
            SnowTalk x = new SnowTalk();
            C.due("gardens(" + n + ")", x.gardens(n), 6);
            C.due("there are " + n, x.told(1), n);
            C.due("the last of " + n, x.state(n - 1, 0), 0);
            C.due("no garden " + n, x.state(n, 0), SnowTalk.UNKNOWN);
            C.due("the last roof of " + n, x.told(10 + n - 1), 20);
            C.due("no roof " + n, x.told(10 + n), SnowTalk.OUTSIDE);
            fault(x, (char) ('a' + n - 1) + "*", SnowTalk.NONE);
            fault(x, (char) ('a' + n) + "*", 0);
            fault(x, "a" + (char) ('A' + n - 1) + "t", SnowTalk.NONE);
            fault(x, "a" + (char) ('A' + n) + "t", 1);
            C.due("gardens(1)", x.gardens(1), SnowTalk.OUTSIDE);
            C.due("gardens(9)", x.gardens(9), SnowTalk.OUTSIDE);
            C.due("still " + n, x.told(1), n);
        }
        SnowTalk back = new SnowTalk();
        back.gardens(8);
        back.garden(7, 0, 5);
        back.garden(7, 1, 4);
        Check.tell(back, "hAt");
        back.gardens(2);
        back.gardens(8);
        C.due("a garden that comes back has no snow", back.state(7, 0), 0);
        C.due("nor a fallen roof", back.state(7, 1), 0);
        C.due("but a roof of 20", back.told(17), 20);
        C.due("and nobody in it", back.recognised(7), SnowTalk.NONE);
        Check.tell(back, "hAt");
        C.due("of whom nothing was said", back.state(7, 0), 1);
    }

    private static void fault(SnowTalk x, String text, int due) {
        Check.write(x, text);
        C.due("the fault of " + text + " among " + x.told(1), x.fault(), due);
    }

    // "each of a NEIGHBOUR (A is of a, and so on)"
    private static void neighbours() {
        for (int g = 0; g < 8; g++) {
            for (int of = 0; of < 8; of++) {
                SnowTalk x = new SnowTalk();
                x.gardens(8);
                Check.write(x, "" + (char) ('a' + g) + (char) ('A' + of) + "t");
                C.due("own: " + g + " of " + of, x.judge(1), g == of ? 1 : SnowTalk.NONE);
                if (g != of) {
                    x.done();
                    C.due("said in " + g, x.state(g, 0), 1);
                    C.due("said of " + of, x.recognised(g), of);
                }
            }
        }
    }

    // "DEEP in snow (0 to 999; 0 at first)"
    private static void deepUpTo999() {
        SnowTalk x = new SnowTalk();
        for (int g = 0; g < 6; g++) {
            C.due("0 at first", x.garden(g, 0, 999), 0);
            C.due("999 was", x.garden(g, 0, 1000), SnowTalk.OUTSIDE);
            C.due("999 it is", x.state(g, 0), 999);
            C.due("to 0", x.garden(g, 0, 0), 999);
            C.due("not to -1", x.garden(g, 0, -1), SnowTalk.OUTSIDE);
            C.due("0 it is", x.state(g, 0), 0);
        }
    }

    // "with a ROOF that bears so much (0 to 999; 20 at first), or has fallen"
    private static void roofs() {
        for (int g = 0; g < 6; g++) {
            C.due("20 is borne in " + g, fallenBehindNight(g, 20, -1), 0);
            C.due("21 is not in " + g, fallenBehindNight(g, 21, -1), 1);
            C.due("0 is borne by 0", fallenBehindNight(g, 0, 0), 0);
            C.due("1 is not", fallenBehindNight(g, 1, 0), 1);
            C.due("999 is borne by 999", fallenBehindNight(g, 999, 999), 0);
            C.due("999 is not by 998", fallenBehindNight(g, 999, 998), 1);
        }
        SnowTalk x = new SnowTalk();
        C.due("a roof of 999", x.garden(0, 1, 999), 20);
        C.due("not of 1000", x.garden(0, 1, 1000), SnowTalk.OUTSIDE);
        C.due("a roof of 0", x.garden(0, 1, 0), 999);
        C.due("not of -1", x.garden(0, 1, -1), SnowTalk.OUTSIDE);
        C.due("0 it is", x.told(10), 0);
    }

    /** All gardens are alike deep, so that no night gives anything. */
    private static int fallenBehindNight(int g, int deep, int roof) {
        SnowTalk x = new SnowTalk();
        Check.snow(x, deep, deep, deep, deep, deep, deep);
        if (roof >= 0) {
            x.garden(g, 1, roof);
        }
        Check.tell(x, ".");
        return x.state(g, 1);
    }

    // "FLAKES by a TRUE word (0 to 9; 1 at first), by a LIE (0 to 9; 3 at first), more for one said AGAIN (0 to 9; 1 at first)"
    private static void flakes() {
        SnowTalk first = new SnowTalk();
        Check.tell(first, "aBtbAlaBt");
        C.deep("1, 3, and 1 more at first", first, "3 3 0 0 0 0");
        for (int v = 0; v <= 9; v++) {
            SnowTalk x = new SnowTalk();
            C.due("TRUE was", x.set(0, v), 1);
            C.due("LIE was", x.set(1, 9 - v), 3);
            C.due("AGAIN was", x.set(2, v), 1);
            Check.tell(x, "aBtbAlcAtcAtdAldAl");
            int t = v;
            int l = 9 - v;
            C.deep("by " + v, x, t + " " + l + " " + (3 * v) + " " + (2 * l + v) + " 0 0");
            C.due("TRUE is", x.told(3), v);
            C.due("LIE is", x.told(4), 9 - v);
            C.due("AGAIN is", x.told(5), v);
        }
        for (int which = 0; which < 3; which++) {
            SnowTalk x = new SnowTalk();
            C.due("0 of " + which, x.set(which, 0), which == 1 ? 3 : 1);
            C.due("-1 of " + which, x.set(which, -1), SnowTalk.OUTSIDE);
            C.due("9 of " + which, x.set(which, 9), 0);
            C.due("10 of " + which, x.set(which, 10), SnowTalk.OUTSIDE);
            C.due("9 it is", x.told(3 + which), 9);
        }
    }

    // "SHOVEL (1 to 9; 4 at first)"
    private static void shovel() {
        for (int v = 1; v <= 9; v++) {
            SnowTalk x = new SnowTalk();
            C.due("4 at first", x.set(3, v), 4);
            C.due("it is", x.told(6), v);
            x.garden(0, 0, 20);
            Check.tell(x, "aB+");
            C.due("a shovel of " + v, x.state(0, 0), 20 - v);
        }
        SnowTalk x = new SnowTalk();
        C.due("no shovel of 0", x.set(3, 0), SnowTalk.OUTSIDE);
        C.due("nor of 10", x.set(3, 10), SnowTalk.OUTSIDE);
        C.due("4 it is", x.told(6), 4);
    }

    // "a PAD (60 SIGNS at most, codes 33 to 126)"
    private static void padOfSixty() {
        for (int sign = 33; sign <= 126; sign++) {
            SnowTalk x = new SnowTalk();
            C.due("sign " + sign, x.say(sign), 1);
            C.due("it is there", x.told(0), 1);
        }
        SnowTalk x = new SnowTalk();
        C.due("32", x.say(32), SnowTalk.OUTSIDE);
        C.due("127", x.say(127), SnowTalk.OUTSIDE);
        for (int i = 0; i < 20; i++) {
            x.say('a');
            x.say('B');
            C.due("three more", x.say('t'), 3 * i + 3);
        }
        C.due("60 are there", x.told(0), 60);
        C.due("a 61st", x.say('.'), SnowTalk.FULL);
        C.due("60 are read", x.fault(), SnowTalk.NONE);
        C.due("all of them", x.done(), 20);
        C.due("one and 19 of two", x.state(0, 0), 39);
        C.due("there is room again", x.say('.'), 1);
        Check.write(x, ".".repeat(60));
        C.due("full again", x.say('.'), SnowTalk.FULL);
        C.due("60 go", x.wipe(), 60);
        C.due("room again", x.say('.'), 1);
    }

    private static void behind(String when, String before, String text, int due) {
        SnowTalk x = new SnowTalk();
        Check.tell(x, before);
        int was = x.state(0, 0);
        Check.write(x, text);
        C.due(when + ": " + before + " then " + text, x.behind(0, 0) - was, due);
    }

    // "AGAIN more, if in this winter a word of that NEIGHBOUR, t or l, was said in that GARDEN before"
    private static void again() {
        behind("t behind t", "aBt", "aBt", 2);
        behind("l behind t", "aBt", "aBl", 4);
        behind("t behind l", "aBl", "aBt", 2);
        behind("l behind l", "aBl", "aBl", 4);
        behind("in one talk", "", "aBtaBlaBt", 1 + 4 + 2);
        behind("once more for a third, not twice", "aBtaBt", "aBt", 2);
        behind("of another", "aCt", "aBt", 1);
        behind("in another garden", "cBt", "aBt", 1);
        behind("he of whom, not he where", "bAt", "aBt", 1);
        behind("a good word is none before", "aCtaB+", "aBt", 1);
        behind("salt is none before", "aCta*", "aBt", 1);
        behind("a good word behind t", "aBtaB+", "aBt", 2);
        behind("a night is no new winter", "aBt.", "aBt", 2);
        behind("a thaw is one", "aBtw", "aBt", 1);
        behind("also in the talk", "aBt", "waBtaBt", -1 + 1 + 2);
        behind("behind it anew", "aBtwaBt", "aBt", 2);
        SnowTalk x = new SnowTalk();
        Check.tell(x, "aBl");
        x.garden(0, 0, 0);
        Check.tell(x, "aBl");
        C.due("also if the snow is gone", x.state(0, 0), 4);
        x.set(2, 0);
        Check.tell(x, "aBl");
        C.due("by 0 more", x.state(0, 0), 7);
    }

    // "+ (a good word of him there: SHOVEL less DEEP, 0 at least)"
    private static void goodWords() {
        int[] deep = {1, 3, 4, 5, 999};
        int[] left = {0, 0, 0, 1, 995};
        for (int i = 0; i < deep.length; i++) {
            SnowTalk x = new SnowTalk();
            x.garden(1, 0, deep[i]);
            C.due("a good word on " + deep[i], Check.tell(x, "bA+"), 1);
            C.due("leaves of " + deep[i], x.state(1, 0), left[i]);
            C.due("the brook has nothing of it", x.told(2), 0);
        }
        SnowTalk x = new SnowTalk();
        Check.snow(x, 9, 9, 9);
        Check.tell(x, "bC+");
        C.deep("there alone", x, "9 5 9 0 0 0");
    }

    // "praise that is salt: 2 less DEEP there, 1 less in the GARDENS beside it, 0 at least"
    private static void salt() {
        salted("b*", "0 0 0 0 0 0", 0, 1, 0, 0, 0, 0);
        salted("b*", "0 0 0 0 0 0", 1, 2, 1, 0, 0, 0);
        salted("b*", "1 1 1 0 0 0", 2, 3, 2, 0, 0, 0);
        salted("b*", "0 0 0 1 0 0", 1, 1, 1, 1, 0, 0);
        salted("a*", "7 8 9 9 9 9", 9, 9, 9, 9, 9, 9);
        salted("f*", "9 9 9 9 8 7", 9, 9, 9, 9, 9, 9);
        salted("e*", "9 9 9 8 7 8", 9, 9, 9, 9, 9, 9);
        salted("a*", "997 998 999 999 999 999", 999, 999, 999, 999, 999, 999);
        salted("b*", "4 3", 5, 5);
        salted("a*", "3 4", 5, 5);
    }

    private static void salted(String text, String due, int... deep) {
        SnowTalk x = new SnowTalk();
        x.gardens(deep.length);
        Check.snow(x, deep);
        Check.tell(x, text);
        C.deep(text, x, due);
        C.due("the brook has nothing of it", x.told(2), 0);
    }

    // "the first sign that can not stand there (letters that are not of GARDENS, NEIGHBOURS that there are, too)"
    private static void faultSignBySign() {
        for (int n = 2; n <= 8; n += 3) {
            for (char sign = 33; sign <= 126; sign++) {
                boolean isGarden = sign >= 'a' && sign < 'a' + n;
                boolean isNeighbour = sign >= 'A' && sign < 'A' + n;
                boolean isWhole = sign == '.' || sign == 'w';
                int head = isWhole ? SnowTalk.NONE : isGarden ? 1 : 0;
                int second = sign == '*' ? SnowTalk.NONE : isNeighbour ? 2 : 1;
                int third = "tl+".indexOf(sign) >= 0 ? SnowTalk.NONE : 2;
                faultAmong(n, "" + sign, head);
                faultAmong(n, "a" + sign, second);
                faultAmong(n, "aB" + sign, third);
                faultAmong(n, "b*." + sign, head < 0 ? head : 3 + head);
                faultAmong(n, "bAta" + sign, second < 0 ? second : 3 + second);
                faultAmong(n, "wbA" + sign, third < 0 ? third : 1 + third);
            }
        }
    }

    private static void faultAmong(int n, String text, int due) {
        SnowTalk x = Check.with(text);
        x.gardens(n);
        C.due("the fault of " + text + " among " + n, x.fault(), due);
        C.due("judged " + text, x.judge(0) == SnowTalk.NO ? 1 : 0, due == SnowTalk.NONE ? 0 : 1);
    }

    // "THE FAULT: the place (from 0 on) ..; the number of signs, if more must come"
    private static void faultPlaces() {
        String whole = "aBtbA+.wc*dAl";
        int[] due = {-6, 1, 2, -6, 4, 5, -6, -6, -6, 9, -6, 11, 12, -6};
        for (int length = 0; length <= whole.length(); length++) {
            C.due("so far: " + whole.substring(0, length), Check.with(whole.substring(0, length)).fault(), due[length]);
        }
        C.due("the first of several", Check.with("aB?x?").fault(), 2);
        C.due("the first, though more must come", Check.with("xa").fault(), 0);
        C.due("a 60th that can not stand", Check.with(".".repeat(59) + "x").fault(), 59);
        C.due("60, and more must come", Check.with(".".repeat(59) + "a").fault(), 60);
        C.due("60, and more must come", Check.with(".".repeat(58) + "aB").fault(), 60);
        C.due("60, the last of them a word's", Check.with(".".repeat(57) + "aBt").fault(), SnowTalk.NONE);
        C.due("60, the last of them salt", Check.with(".".repeat(58) + "a*").fault(), SnowTalk.NONE);
        SnowTalk x = Check.with("fAt");
        C.due("there is f", x.fault(), SnowTalk.NONE);
        x.gardens(5);
        C.due("there is no f", x.fault(), 0);
        C.due("so it is refused", x.done(), SnowTalk.NO);
        x.gardens(6);
        C.due("there is f again", x.fault(), SnowTalk.NONE);
    }

    // A PAD without signs is a TALK of no WORDS.
    private static void emptyPad() {
        SnowTalk x = new SnowTalk();
        x.garden(0, 0, 30);
        C.due("no signs", x.told(0), 0);
        C.due("none go", x.wipe(), 0);
        C.due("no fault", x.fault(), SnowTalk.NONE);
        C.due("no word that can not be", x.judge(0), SnowTalk.NONE);
        C.due("nor why", x.judge(1), SnowTalk.NONE);
        C.due("no word behind which a roof falls", x.first(), SnowTalk.NONE);
        C.due("behind it all is as it is", x.behind(0, 0), 30);
        C.due("no roof falls behind no word", x.behind(0, 1), 0);
        C.due("none left unsaid", x.where(-1), 0);
        C.due("no 0th", x.where(0), SnowTalk.NONE);
        C.due("all laws", x.laws(-1), 216);
        C.due("no words done", x.done(), 0);
        C.due("no roof fell", x.state(0, 1), 0);
    }

    private static void night(String when, String due, int... deep) {
        SnowTalk x = new SnowTalk();
        x.gardens(deep.length);
        Check.snow(x, deep);
        C.due("a night is a word", Check.tell(x, "."), 1);
        C.deep("a night: " + when, x, due);
        C.due("the brook has nothing of it", x.told(2), 0);
    }

    // "all at once, each GARDEN that is 2 or more DEEPER than the one below it gives that one 1; the last one gives nothing"
    private static void nights() {
        night("as deep", "5 5", 5, 5);
        night("1 deeper", "6 5", 6, 5);
        night("2 deeper", "6 6", 7, 5);
        night("3 deeper", "7 6", 8, 5);
        night("from 2 to none", "1 1", 2, 0);
        night("from 1 to none: not", "1 0", 1, 0);
        night("not upwards", "0 9", 0, 9);
        night("all at once: what comes tonight is not given on", "2 2 0", 3, 1, 0);
        night("all at once: what goes tonight does not make one shallower", "3 1 1", 3, 2, 0);
        night("gives and gets", "3 2 1", 4, 2, 0);
        night("the last one gives nothing, to the first neither", "0 0 0 0 0 0 0 9", 0, 0, 0, 0, 0, 0, 0, 9);
        night("the seventh of eight gives", "0 0 0 0 0 0 8 1", 0, 0, 0, 0, 0, 0, 9, 0);
        night("all of eight", "13 12 10 8 6 4 2 1", 14, 12, 10, 8, 6, 4, 2, 0);
        night("the deepest", "998 1", 999, 0);
        night("none gets over 999", "999 999", 999, 999);
        night("up to 998", "998 998", 999, 997);
    }

    // "A thaw: each is 3 less DEEP (0 at least); what is less is in the BROOK; then it is as if nothing was ever said"
    private static void thaws() {
        SnowTalk x = new SnowTalk();
        C.due("the brook has 0 at first", x.told(2), 0);
        Check.snow(x, 0, 1, 2, 3, 4, 999);
        C.due("a thaw is a word", Check.tell(x, "w"), 1);
        C.deep("a thaw", x, "0 0 0 0 1 996");
        C.due("what is less", x.told(2), 0 + 1 + 2 + 3 + 3 + 3);
        Check.tell(x, "w");
        C.due("and more", x.told(2), 12 + 1 + 3);
        SnowTalk none = new SnowTalk();
        C.due("a thaw of no snow", Check.tell(none, "ww"), 2);
        C.due("nothing in the brook", none.told(2), 0);
        SnowTalk said = new SnowTalk();
        said.gardens(8);
        Check.tell(said, "aBtbAtcAtdAteAtfAtgAthAthGtw");
        Check.tell(said, "aBtbAtcAtdAteAtfAtgAthAthGt");
        C.deep("nothing was ever said, anywhere", said, "1 1 1 1 1 1 1 2");
        SnowTalk nobody = new SnowTalk();
        Check.tell(nobody, "aBlfAlw");
        C.due("nobody is recognised in the first", nobody.recognised(0), SnowTalk.NONE);
        C.due("nor in the last", nobody.recognised(5), SnowTalk.NONE);
    }

    // "Behind each WORD (a night, a thaw, too) the ROOF of each GARDEN that is DEEPER than it bears has fallen (and stays so)"
    private static void roofsBehindEachWord() {
        for (String text : new String[] {"aBt", "aBl", "bA+", "b*", ".", "w"}) {
            SnowTalk x = new SnowTalk();
            Check.snow(x, 5, 5, 5, 30, 30, 30);
            x.garden(3, 1, 26);
            x.garden(5, 1, 30);
            Check.tell(x, text);
            C.due("elsewhere, by " + text, x.state(3, 1), 1);
            C.due("each, by " + text, x.state(4, 1), 1);
            C.due("not what bears it, by " + text, x.state(5, 1), 0);
            C.due("not what bears more, by " + text, x.state(0, 1), 0);
        }
        SnowTalk x = new SnowTalk();
        x.garden(0, 1, 5);
        x.garden(0, 0, 9);
        Check.tell(x, "aB+");
        C.due("behind the good word it is 5 deep", x.state(0, 1), 0);
        Check.tell(x, "aBt");
        C.due("6 it does not bear", x.state(0, 1), 1);
        Check.tell(x, "aB+aB+");
        C.due("it stays so, without snow", x.state(0, 0) + x.state(0, 1), 1);
        Check.tell(x, "w.");
        C.due("it stays so", x.state(0, 1), 1);
        C.due("a new one of the same", x.garden(0, 1, 5), 5);
        C.due("has not fallen", x.state(0, 1), 0);
        Check.tell(x, ".");
        C.due("nor falls", x.state(0, 1), 0);
        SnowTalk night = new SnowTalk();
        Check.snow(night, 9, 3, 3);
        night.garden(1, 1, 3);
        Check.write(night, ".");
        C.due("by what a night gives", night.behind(1, 1), 1);
        night.garden(1, 1, 4);
        C.due("not if it bears that", night.behind(1, 1), 0);
    }

    private static void judged(SnowTalk x, String text, int word, int why) {
        Check.write(x, text);
        C.due("judged " + text + ", word", x.judge(0), word);
        C.due("judged " + text + ", why", x.judge(1), why);
    }

    // "1 the GARDEN is that NEIGHBOUR's own (t, l, +)"
    private static void reasonOne() {
        SnowTalk x = new SnowTalk();
        for (String kind : new String[] {"t", "l", "+"}) {
            judged(x, "aA" + kind, 0, 1);
            judged(x, "fF" + kind, 0, 1);
        }
        Check.snow(x, 999, 999, 999, 999, 999, 999);
        judged(x, "aAt", 0, 1);
        judged(x, "aAl", 0, 1);
        judged(x, "aA+", 0, 1);
        judged(x, "a*", SnowTalk.NONE, SnowTalk.NONE);
    }

    // "2 it is not DEEP there at all (+, *: also beside it)"
    private static void reasonTwo() {
        SnowTalk x = new SnowTalk();
        judged(x, "bA+", 0, 2);
        judged(x, "b*", 0, 2);
        Check.snow(x, 0, 1, 0, 0, 0, 0);
        judged(x, "bA+", SnowTalk.NONE, SnowTalk.NONE);
        judged(x, "aB+", 0, 2);
        judged(x, "cB+", 0, 2);
        judged(x, "b*", SnowTalk.NONE, SnowTalk.NONE);
        judged(x, "a*", SnowTalk.NONE, SnowTalk.NONE);
        judged(x, "c*", SnowTalk.NONE, SnowTalk.NONE);
        judged(x, "d*", 0, 2);
        judged(x, "e*", 0, 2);
        Check.snow(x, 1, 0, 0, 0, 0, 0);
        judged(x, "a*", SnowTalk.NONE, SnowTalk.NONE);
        judged(x, "b*", SnowTalk.NONE, SnowTalk.NONE);
        judged(x, "c*", 0, 2);
        judged(x, "f*", 0, 2);
        Check.snow(x, 0, 0, 0, 0, 0, 1);
        judged(x, "f*", SnowTalk.NONE, SnowTalk.NONE);
        judged(x, "e*", SnowTalk.NONE, SnowTalk.NONE);
        judged(x, "d*", 0, 2);
        judged(x, "a*", 0, 2);
        judged(x, "aBt", SnowTalk.NONE, SnowTalk.NONE);
        judged(x, ".w", SnowTalk.NONE, SnowTalk.NONE);
        SnowTalk fewer = new SnowTalk();
        fewer.gardens(8);
        fewer.garden(2, 0, 9);
        fewer.gardens(2);
        judged(fewer, "b*", 0, 2);
    }

    // "3 it would be more than 999 DEEP"
    private static void reasonThree() {
        SnowTalk x = new SnowTalk();
        Check.snow(x, 998, 996, 997, 999);
        judged(x, "aBt", SnowTalk.NONE, SnowTalk.NONE);
        judged(x, "aBtaCt", 1, 3);
        judged(x, "aBl", 0, 3);
        judged(x, "bAl", SnowTalk.NONE, SnowTalk.NONE);
        judged(x, "cAl", 0, 3);
        judged(x, "dAt", 0, 3);
        judged(x, "dA+d*", SnowTalk.NONE, SnowTalk.NONE);
        judged(x, ".w", SnowTalk.NONE, SnowTalk.NONE);
        x.garden(0, 0, 996);
        Check.tell(x, "aBt");
        judged(x, "aBt", SnowTalk.NONE, SnowTalk.NONE);
        x.garden(0, 0, 998);
        judged(x, "aBt", 0, 3);
        judged(x, "aCt", SnowTalk.NONE, SnowTalk.NONE);
        judged(x, "waBt", SnowTalk.NONE, SnowTalk.NONE);
        x.set(0, 0);
        judged(x, "dAt", SnowTalk.NONE, SnowTalk.NONE);
        judged(x, "dAtdAt", 1, 3);
    }
}
