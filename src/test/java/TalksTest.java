/** Promises 8 to 13: judge, done, state, behind, first, recognised. */
public final class TalksTest {
    private static final Check C = new Check("TalksTest");

    public static void main(String[] args) {
        judge();
        judgeDeep();
        done();
        words();
        nightsAndThaws();
        roofs();
        state();
        behind();
        first();
        recognised();
        C.end();
    }

    private static void judged(SnowTalk x, String text, int word, int why) {
        Check.write(x, text);
        C.due("8: " + text + " word", x.judge(0), word);
        C.due("8: " + text + " why", x.judge(1), why);
    }

    private static void judge() {
        SnowTalk x = new SnowTalk();
        judged(x, "", SnowTalk.NONE, SnowTalk.NONE);
        judged(x, "aBt.w", SnowTalk.NONE, SnowTalk.NONE);
        judged(x, "aAt", 0, 1);
        judged(x, ".wbBl", 2, 1);
        judged(x, "aA+", 0, 1);
        judged(x, "aB+", 0, 2);
        judged(x, "bAtaB+", 1, 2);
        judged(x, "a*", 0, 2);
        judged(x, "aBtb*", SnowTalk.NONE, SnowTalk.NONE);
        judged(x, "aBtc*", 1, 2);
        judged(x, "cAtb*", SnowTalk.NONE, SnowTalk.NONE);
        judged(x, "aBtwa*", 2, 2);
        judged(x, "aBlaB+aB+", 2, 2);
        judged(x, "fAtf*e*", 2, 2);
        Check.write(x, "aB");
        C.due("8: a fault", x.judge(0), SnowTalk.NO);
        C.due("8: a fault, why", x.judge(1), SnowTalk.NO);
        C.due("8: what 2 ahead of a fault", x.judge(2), SnowTalk.OUTSIDE);
        C.due("8: what -1", x.judge(-1), SnowTalk.OUTSIDE);
        C.deep("8: nothing is done", x, "0 0 0 0 0 0");
    }

    private static void judgeDeep() {
        SnowTalk x = new SnowTalk();
        x.garden(0, 0, 996);
        judged(x, "aBl", SnowTalk.NONE, SnowTalk.NONE);
        judged(x, "aBtaBt", SnowTalk.NONE, SnowTalk.NONE);
        judged(x, "aBtaBl", 1, 3);
        judged(x, "aBlaCt", 1, 3);
        judged(x, "aBlwaBl", SnowTalk.NONE, SnowTalk.NONE);
        x.garden(0, 0, 999);
        judged(x, "aAl", 0, 1);
        x.set(0, 0);
        judged(x, "aBt", SnowTalk.NONE, SnowTalk.NONE);
        judged(x, "aBtaBt", 1, 3);
    }

    private static void done() {
        SnowTalk x = new SnowTalk();
        C.due("9: an empty pad", x.done(), 0);
        Check.write(x, "aBlaB");
        C.due("9: a fault", x.done(), SnowTalk.NO);
        C.due("9: the pad stays", x.told(0), 5);
        Check.write(x, "aBlaAl");
        C.due("9: a word that can not be", x.done(), SnowTalk.NO);
        C.due("9: the pad stays", x.told(0), 6);
        C.deep("9: nothing was done", x, "0 0 0 0 0 0");
        C.due("9: five words", Check.tell(x, "aBl.wbCtb*"), 5);
        C.due("9: the pad is empty", x.told(0), 0);
        C.due("9: nothing more", x.done(), 0);
        C.deep("9: done", x, "0 0 0 0 0 0");
        C.due("9: the brook", x.told(2), 3);
        SnowTalk y = new SnowTalk();
        C.due("9: 60 nights", Check.tell(y, ".".repeat(60)), 60);
    }

    private static void words() {
        SnowTalk x = new SnowTalk();
        Check.tell(x, "aBtaCl");
        C.deep("1: t and l", x, "4 0 0 0 0 0");
        Check.tell(x, "aBl");
        C.deep("1: again, another kind, another talk", x, "8 0 0 0 0 0");
        Check.tell(x, "bAt");
        C.deep("1: not again in another garden", x, "8 1 0 0 0 0");
        Check.tell(x, "aD+");
        C.deep("1: a shovel", x, "4 1 0 0 0 0");
        Check.tell(x, "bC+");
        C.deep("1: 0 at least", x, "4 0 0 0 0 0");
        Check.tell(x, "aDt");
        C.deep("1: a good word is not said before", x, "5 0 0 0 0 0");
        Check.snow(x, 1, 5, 0, 0, 0, 2);
        Check.tell(x, "b*");
        C.deep("1: salt", x, "0 3 0 0 0 2");
        Check.tell(x, "f*");
        C.deep("1: salt at the end", x, "0 3 0 0 0 0");
        Check.tell(x, "a*");
        C.deep("1: salt at the head", x, "0 2 0 0 0 0");
        Check.snow(x, 9, 9, 9, 9, 9, 9);
        Check.tell(x, "c*");
        C.deep("1: salt, one less on either side", x, "9 8 7 8 9 9");
    }

    private static void nightsAndThaws() {
        SnowTalk x = new SnowTalk();
        Check.snow(x, 4, 2, 0, 1, 0, 9);
        Check.tell(x, ".");
        C.deep("1: a night, all at once", x, "3 2 1 1 0 9");
        Check.snow(x, 6, 3, 1, 0, 2, 0);
        Check.tell(x, ".");
        C.deep("1: gives and gets", x, "5 3 2 0 1 1");
        Check.snow(x, 5, 3, 2, 0, 0, 1);
        Check.tell(x, "w");
        C.deep("1: a thaw", x, "2 0 0 0 0 0");
        C.due("1: the brook", x.told(2), 9);
        Check.tell(x, "w");
        C.due("1: the brook has more", x.told(2), 11);
        Check.tell(x, "aBlwaBl");
        C.deep("1: nothing is again behind a thaw", x, "3 0 0 0 0 0");
        Check.tell(x, ".aBl");
        C.deep("1: a night forgets nothing", x, "6 1 0 0 0 0");
        x.gardens(8);
        Check.tell(x, "hAlgHlwhAlgHt");
        C.deep("1: eight gardens", x, "0 0 0 0 0 0 1 3");
    }

    private static void roofs() {
        SnowTalk x = new SnowTalk();
        x.garden(0, 1, 3);
        Check.tell(x, "aBl");
        C.due("1: it bears just so much", x.state(0, 1), 0);
        Check.tell(x, "aCt");
        C.due("1: not more", x.state(0, 1), 1);
        Check.tell(x, "w");
        C.due("1: fallen stays so", x.state(0, 1), 1);
        x.garden(2, 0, 21);
        Check.tell(x, "aBt");
        C.due("1: each roof is looked at behind a word", x.state(2, 1), 1);
        x.garden(3, 0, 22);
        Check.tell(x, "w");
        C.due("1: behind the thaw, not ahead of it", x.state(3, 1), 0);
        x.garden(4, 0, 19);
        x.garden(5, 0, 0);
        x.garden(5, 1, 0);
        Check.tell(x, ".");
        C.due("1: a night breaks one, too", x.state(5, 1), 1);
    }

    private static void state() {
        SnowTalk x = new SnowTalk();
        x.garden(5, 0, 40);
        C.due("10: depth", x.state(5, 0), 40);
        C.due("10: fallen", x.state(5, 1), 0);
        Check.tell(x, ".");
        C.due("10: has fallen", x.state(5, 1), 1);
        C.due("10: others not", x.state(4, 1), 0);
        C.due("10: garden 6", x.state(6, 7), SnowTalk.UNKNOWN);
        C.due("10: garden -1", x.state(-1, 0), SnowTalk.UNKNOWN);
        C.due("10: what 2", x.state(0, 2), SnowTalk.OUTSIDE);
        C.due("10: what -1", x.state(0, -1), SnowTalk.OUTSIDE);
    }

    private static void behind() {
        SnowTalk x = new SnowTalk();
        x.garden(0, 1, 2);
        Check.write(x, "aBl.");
        C.due("11: depth", x.behind(0, 0), 2);
        C.due("11: depth below", x.behind(1, 0), 1);
        C.due("11: fallen", x.behind(0, 1), 1);
        C.due("11: not fallen", x.behind(1, 1), 0);
        C.deep("11: not done", x, "0 0 0 0 0 0");
        C.due("11: not fallen in fact", x.state(0, 1), 0);
        C.due("11: the pad stays", x.told(0), 4);
        C.due("11: nothing is said", x.recognised(0), SnowTalk.NONE);
        Check.write(x, "aA");
        C.due("11: a fault", x.behind(0, 0), SnowTalk.NO);
        C.due("11: what 2 first", x.behind(0, 2), SnowTalk.OUTSIDE);
        C.due("11: garden 6 first", x.behind(6, 2), SnowTalk.UNKNOWN);
        C.due("11: garden -1 first", x.behind(-1, 0), SnowTalk.UNKNOWN);
        Check.write(x, "bAtaAt");
        C.due("11: it can not be", x.behind(0, 0), SnowTalk.NO);
        x.wipe();
        x.garden(2, 0, 50);
        C.due("11: nothing on the pad", x.behind(2, 0), 50);
        C.due("11: no word, no roof falls", x.behind(2, 1), 0);
    }

    private static void first() {
        SnowTalk x = new SnowTalk();
        C.due("12: nothing", x.first(), SnowTalk.NONE);
        x.garden(1, 1, 4);
        x.garden(2, 1, 0);
        Check.write(x, "bAl.bAlcAt");
        C.due("12: the least of several", x.first(), 1);
        x.garden(2, 1, 20);
        C.due("12: the word", x.first(), 2);
        Check.write(x, "bAl.bA+");
        C.due("12: none falls", x.first(), SnowTalk.NONE);
        Check.write(x, "bAlbAl");
        x.done();
        Check.write(x, "bAl");
        C.due("12: it had fallen", x.first(), SnowTalk.NONE);
        Check.write(x, "bAlx");
        C.due("12: a fault", x.first(), SnowTalk.NO);
        Check.write(x, "aBlbBl");
        C.due("12: it can not be", x.first(), SnowTalk.NO);
        x.garden(3, 0, 30);
        Check.write(x, "w.");
        C.due("12: one that was too deep before", x.first(), 0);
        x.garden(3, 0, 23);
        C.due("12: a thaw comes first", x.first(), SnowTalk.NONE);
    }

    private static void recognised() {
        SnowTalk x = new SnowTalk();
        C.due("13: garden 6", x.recognised(6), SnowTalk.UNKNOWN);
        C.due("13: garden -1", x.recognised(-1), SnowTalk.UNKNOWN);
        Check.tell(x, "aCtaBt");
        C.due("13: of several the least", x.recognised(0), 1);
        Check.tell(x, "fAt");
        C.due("13: of A", x.recognised(5), 0);
        Check.tell(x, "aCt");
        C.due("13: again counts", x.recognised(0), 2);
        Check.tell(x, "aDl");
        C.due("13: three and three", x.recognised(0), 2);
        Check.tell(x, "aDt");
        C.due("13: five", x.recognised(0), 3);
        Check.tell(x, "aD+aD+a*..");
        C.due("13: shovels, salt, nights change nothing", x.recognised(0), 3);
        C.due("13: of nobody any elsewhere", x.recognised(1), SnowTalk.NONE);
        x.garden(0, 0, 0);
        C.due("13: nor does a new depth", x.recognised(0), 3);
        Check.tell(x, "waEt");
        C.due("13: since the last thaw", x.recognised(0), 4);
        SnowTalk y = new SnowTalk();
        y.set(0, 0);
        Check.tell(y, "aBt");
        C.due("13: words without flakes", y.recognised(0), SnowTalk.NONE);
        Check.tell(y, "aBt");
        C.due("13: but said again", y.recognised(0), 1);
        C.due("13: by one flake", y.state(0, 0), 1);
    }
}
