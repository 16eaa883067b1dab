/** Part 2 of the document: what is judged, done, behind, first, recognised. Each sentence that names an edge. */
public final class EdgesTwoTest {
    private static final Check C = new Check("EdgesTwoTest");
    private static final int NONE = SnowTalk.NONE;

    public static void main(String[] args) {
        judged();
        judgedFromHere();
        done();
        behind();
        first();
        firstOfTalksThatCanBe();
        recognised();
        recognisedSinceTheThaw();
        C.end();
    }

    private static void judged(String text, int word, int why) {
        SnowTalk x = Check.with(text);
        C.due("8: " + text + ", word", x.judge(0), word);
        C.due("8: " + text + ", why", x.judge(1), why);
    }

    // "the first WORD (from 0 on; nights, thaws are WORDS) that can not be, and why"
    private static void judged() {
        judged("aAt", 0, 1);
        judged("aBtaAt", 1, 1);
        judged(".aAt", 1, 1);
        judged("waAt", 1, 1);
        judged("aBta*aAt", 2, 1);
        judged("aBtaC+aAt", 2, 1);
        judged("aA+a*", 0, 1);
        judged("a*aA+", 0, 2);
        judged("aBtcC+c*", 1, 1);
        judged("aBtc*cC+", 1, 2);
        judged(".".repeat(58) + "a*", 58, 2);
        judged(".".repeat(57) + "aAt", 57, 1);
        judged(".".repeat(60), NONE, NONE);
        judged("aBt".repeat(19) + "aAt", 19, 1);
        judged("aBt".repeat(20), NONE, NONE);
        // What came before makes it so.
        judged("bAta*", NONE, NONE);
        judged("bAta*a*", 2, 2);
        judged("bAlb*b*b*", 3, 2);
        judged("aBl.bA+", NONE, NONE);
        judged("aBt.bA+", 2, 2);
        judged("aBlwaB+", 2, 2);
        judged("aBlaCtwaB+", NONE, NONE);
    }

    private static void judgedFromHere() {
        SnowTalk x = new SnowTalk();
        x.garden(3, 0, 1);
        Check.write(x, "dA+");
        C.due("8: from as it is now", x.judge(0), NONE);
        x.garden(3, 0, 0);
        C.due("8: and now", x.judge(0), 0);
        C.due("8: why now", x.judge(1), 2);
        x.garden(0, 0, 999);
        Check.write(x, "bAtwaBlaBt");
        C.due("8: 999 after a thaw and a LIE", x.judge(0), 3);
        C.due("8: one more can not be", x.judge(1), 3);
        Check.write(x, "bAtwaBl");
        C.due("8: just 999", x.judge(0), NONE);
    }

    // "The TALK on the PAD is DONE (it is empty then): WORDS. NO: there is a FAULT, or a WORD that can not be"
    private static void done() {
        String[] texts = {"", ".", "w", "aBt", "aBta*", "aBtaC+", "aBt.waBlb*", ".".repeat(60), "aBt".repeat(20)};
        int[] words = {0, 1, 1, 1, 2, 2, 5, 60, 20};
        for (int i = 0; i < texts.length; i++) {
            SnowTalk x = Check.with(texts[i]);
            C.due("9: words of " + texts[i], x.done(), words[i]);
            C.due("9: the pad is empty then", x.told(0), 0);
            C.due("9: it is not done twice", x.done(), 0);
        }
        SnowTalk x = Check.with("aBlaB");
        C.due("9: a fault", x.done(), SnowTalk.NO);
        C.due("9: the pad is as it was", x.told(0), 5);
        x.say('l');
        C.due("9: with one sign more", x.done(), 2);
        C.due("9: all of it is done", x.state(0, 0), 7);
        Check.write(x, "aClbBl");
        C.due("9: the last word can not be", x.done(), SnowTalk.NO);
        C.due("9: no word of it is done", x.state(0, 0), 7);
        C.due("9: nor said", x.recognised(0), 1);
        C.due("9: the pad is as it was", x.told(0), 6);
        Check.tell(x, "aCt");
        C.due("9: nor said before", x.state(0, 0), 8);
    }

    // "BEHIND, likewise, not being DONE: how DEEP a GARDEN is, whether its ROOF has fallen"
    private static void behind() {
        SnowTalk x = new SnowTalk();
        x.garden(5, 1, 2);
        Check.write(x, "aBlfAlf*f*");
        int[] deep = {3, 0, 0, 0, 0, 0};
        for (int g = 0; g < 6; g++) {
            C.due("11: how deep " + g, x.behind(g, 0), deep[g]);
            C.due("11: fallen " + g, x.behind(g, 1), g == 5 ? 1 : 0);
            C.due("11: not in fact " + g, x.state(g, 0) + x.state(g, 1), 0);
        }
        C.due("11: behind(6, 0)", x.behind(6, 0), SnowTalk.UNKNOWN);
        C.due("11: behind(-1, 0)", x.behind(-1, 0), SnowTalk.UNKNOWN);
        C.due("11: the pad stays", x.told(0), 10);
        C.due("11: the brook, too", x.told(2), 0);
        x.garden(5, 0, 9);
        C.due("11: from as it is", x.behind(5, 0), 8);
        x.done();
        C.due("11: as it is then", x.state(5, 0), 8);
        C.due("11: behind no word", x.behind(5, 0), 8);
        C.due("11: fallen it stays", x.behind(5, 1), 1);
    }

    private static SnowTalk street(int roofOfA, int roofOfB, String text) {
        SnowTalk x = new SnowTalk();
        x.garden(0, 1, roofOfA);
        x.garden(1, 1, roofOfB);
        Check.write(x, text);
        return x;
    }

    // "FIRST: the first WORD behind which some ROOF has fallen that had not"
    private static void first() {
        C.due("12: it bears 3", street(3, 20, "aBl").first(), NONE);
        C.due("12: not 4", street(3, 20, "aBlaCt").first(), 1);
        C.due("12: at once", street(2, 20, "aBl").first(), 0);
        C.due("12: the first of two", street(3, 0, "aBlbAtaCt").first(), 1);
        C.due("12: behind a night, which is a word", street(20, 0, "aBl.").first(), 1);
        C.due("12: behind a thaw", firstOnOverload("w", 24), 0);
        C.due("12: not if it thaws enough", firstOnOverload("w", 23), NONE);
        C.due("12: behind a good word", firstOnOverload("cA+", 25), 0);
        C.due("12: not if it is enough", firstOnOverload("cA+", 24), NONE);
        C.due("12: behind salt", firstOnOverload("c*", 23), 0);
        C.due("12: not if it is enough", firstOnOverload("c*", 22), NONE);
        C.due("12: the last of sixty", firstOnOverload("w".repeat(57) + "cAl", 20), NONE);
        C.due("12: the 58th word", street(2, 20, ".".repeat(57) + "aBl").first(), 57);
        SnowTalk x = street(2, 2, "aBl");
        x.done();
        Check.write(x, "aBlaBl");
        C.due("12: one that had fallen does not count", x.first(), NONE);
        Check.write(x, "aBlbAl");
        C.due("12: another does", x.first(), 1);
        x.garden(0, 1, 2);
        C.due("12: a new roof falls anew", x.first(), 0);
        C.due("12: it does not fall in fact", x.state(0, 1), 0);
    }

    private static int firstOnOverload(String text, int deep) {
        SnowTalk x = new SnowTalk();
        x.garden(2, 0, deep);
        Check.write(x, text);
        return x.first();
    }

    // "of a TALK that can be"; "NO, likewise"
    private static void firstOfTalksThatCanBe() {
        C.due("12: a roof falls, but a later word can not be", street(0, 20, "aBlbBl").first(), SnowTalk.NO);
        C.due("12: a roof falls, but there is a fault", street(0, 20, "aBlb").first(), SnowTalk.NO);
        C.due("12: no roof falls, and a word can not be", street(20, 20, "cD+").first(), SnowTalk.NO);
        C.due("12: a word too deep", deepest("cAt"), SnowTalk.NO);
        C.due("12: just not too deep", deepest("cA+cAl"), 0);
    }

    private static int deepest(String text) {
        SnowTalk x = new SnowTalk();
        x.garden(2, 0, 999);
        Check.write(x, text);
        return x.first();
    }

    private static void recognisedIn(String text, int garden, int due) {
        SnowTalk x = new SnowTalk();
        Check.tell(x, text);
        C.due("13: in " + garden + " behind " + text, x.recognised(garden), due);
    }

    // "of whom most FLAKES were said in a GARDEN (t, l, AGAIN; of several the least); NONE: of nobody any"
    private static void recognised() {
        recognisedIn("", 0, NONE);
        recognisedIn("aBt", 0, 1);
        recognisedIn("aBt", 1, NONE);
        recognisedIn("aFt", 0, 5);
        recognisedIn("fAt", 5, 0);
        recognisedIn("aFtaBt", 0, 1);
        recognisedIn("aBtaFt", 0, 1);
        recognisedIn("aBtaFl", 0, 5);
        recognisedIn("aClaBtaBt", 0, 1);
        recognisedIn("aClaBtaBtaCt", 0, 2);
        recognisedIn("aClaDtaDt", 0, 2);
        recognisedIn("aDlaCtaCt", 0, 2);
        recognisedIn("aDlaEtaEt", 0, 3);
        recognisedIn("aDlaBtaEt", 0, 3);
        recognisedIn("aBtaC+", 0, 1);
        recognisedIn("aBlaB+", 0, 1);
        recognisedIn("aBta*", 0, 1);
        recognisedIn("aBl.", 1, NONE);
        recognisedIn("aBl....", 0, 1);
        SnowTalk x = new SnowTalk();
        x.garden(0, 0, 9);
        C.due("13: snow that nobody is in", x.recognised(0), NONE);
        x.set(0, 0);
        x.set(1, 0);
        Check.tell(x, "aBtaBlaCt");
        C.due("13: one flake, by AGAIN", x.recognised(0), 1);
        x.set(2, 0);
        Check.tell(x, "bAtbAtbCl");
        C.due("13: words, but of nobody any flake", x.recognised(1), NONE);
        x.gardens(8);
        x.set(0, 1);
        Check.tell(x, "aHthGt");
        C.due("13: the last of eight", x.recognised(0), 7);
        C.due("13: in the last of eight", x.recognised(7), 6);
        C.due("13: recognised(8)", x.recognised(8), SnowTalk.UNKNOWN);
        C.due("13: recognised(-1)", x.recognised(-1), SnowTalk.UNKNOWN);
    }

    // "since the last thaw"
    private static void recognisedSinceTheThaw() {
        recognisedIn("aBlw", 0, NONE);
        recognisedIn("aBlaBlaBlw", 0, NONE);
        recognisedIn("aBlaBlwaCt", 0, 2);
        recognisedIn("aBlwaBtaClw", 0, NONE);
        recognisedIn("aBlwaCtwaDt", 0, 3);
        SnowTalk x = new SnowTalk();
        Check.tell(x, "aBl");
        Check.write(x, "w");
        C.due("13: a thaw that is not done", x.recognised(0), 1);
        x.done();
        C.due("13: one that is", x.recognised(0), NONE);
        SnowTalk winter = new SnowTalk();
        Check.tell(winter, "aBl");
        winter.winter(3, 99, 0);
        C.due("13: A WINTER is not in fact", winter.recognised(0), 1);
    }
}
