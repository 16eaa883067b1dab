/** What each call leaves as it was: one that asks leaves all; one that changes something leaves all else. */
public final class LeavesTest {
    private static final Check C = new Check("LeavesTest");
    private static final String PAD = "aBt.c*gAl";

    private interface Call {
        long on(SnowTalk x);
    }

    public static void main(String[] args) {
        richIsAsTold();
        asksOfTalks();
        asksOfSnow();
        asksOfChance();
        numbers();
        pad();
        talks();
        sights();
        gardens();
        images();
        C.end();
    }

    private static void richIsAsTold() {
        SnowTalk x = Everything.rich(PAD);
        C.deep("rich", x, "7 3 0 4 4 25 2");
        C.due("rich: b has fallen", x.state(1, 1), 1);
        C.due("rich: f has not", x.state(5, 1), 0);
        C.due("rich: the brook", x.told(2), 3);
        C.due("rich: rows of one word that fit the sights are some, not all", x.who(1, 0) > 0 && x.who(1, 0) < 14 ? 1 : 0, 1);
        C.due("rich: no row of no words is left out", x.who(0, 0), 1);
    }

    private static void asks(String name, Call call) {
        SnowTalk asked = Everything.rich(PAD);
        SnowTalk other = Everything.rich(PAD);
        long once = call.on(asked);
        C.due(name + " answers the same again", call.on(asked), once);
        C.holds(name + " leaves all as it was", Everything.all(asked).equals(Everything.all(other)));
    }

    private static void asksOfTalks() {
        asks("7: fault", x -> x.fault());
        asks("8: judge(0)", x -> x.judge(0));
        asks("8: judge(1)", x -> x.judge(1));
        for (int garden = 0; garden < 7; garden++) {
            int g = garden;
            asks("10: state(" + g + ", 0)", x -> x.state(g, 0));
            asks("10: state(" + g + ", 1)", x -> x.state(g, 1));
            asks("11: behind(" + g + ", 0)", x -> x.behind(g, 0));
            asks("11: behind(" + g + ", 1)", x -> x.behind(g, 1));
            asks("13: recognised(" + g + ")", x -> x.recognised(g));
        }
        asks("12: first", x -> x.first());
        for (int what = 0; what < 17; what++) {
            int w = what;
            asks("30: told(" + w + ")", x -> x.told(w));
        }
        // The pad of these can be placed; it is the same in both.
        SnowTalk asked = Everything.rich("aBtcDl");
        SnowTalk other = Everything.rich("aBtcDl");
        for (int i = -2; i < 4; i++) {
            asked.where(i);
            asked.laws(i);
        }
        C.holds("14: where leaves all as it was", Everything.all(asked).equals(Everything.all(other)));
    }

    private static void asksOfSnow() {
        for (int v : new int[] {0, 1, 20, 999}) {
            asks("15: cleared(" + v + ")", x -> x.cleared(v));
            asks("16: salted(" + v + ")", x -> x.salted(v));
        }
        for (int garden = 0; garden < 7; garden++) {
            int g = garden;
            asks("17: slide(" + g + ", 1, 0)", x -> x.slide(g, 1, 0));
            asks("17: slide(" + g + ", 3, 1)", x -> x.slide(g, 3, 1));
            asks("18: holds(" + g + ")", x -> x.holds(g));
        }
        for (int count = 0; count <= 3; count++) {
            int m = count;
            asks("21: who(" + m + ", 0)", x -> x.who(m, 0));
            asks("21: who(" + m + ", 1)", x -> x.who(m, 1));
            asks("21: who(" + m + ", 2)", x -> x.who(m, 2));
            asks("22: next(" + m + ", 0)", x -> x.next(m, 0));
            asks("22: next(" + m + ", 1)", x -> x.next(m, 1));
        }
        for (int i : new int[] {-1, 0, 7, 215, 216}) {
            asks("23: laws(" + i + ")", x -> x.laws(i));
        }
    }

    private static void asksOfChance() {
        for (int garden = 0; garden < 7; garden++) {
            int g = garden;
            asks("24: guests(" + g + ", 3, 12, 0)", x -> x.guests(g, 3, 12, 0));
            asks("24: guests(" + g + ", 3, 12, 1)", x -> x.guests(g, 3, 12, 1));
            asks("25: build(" + g + ", 3, 12, 9, 10)", x -> x.build(g, 3, 12, 9, 10));
            asks("26: elsewhere(" + g + ")", x -> x.elsewhere(g));
        }
        asks("26: elsewhere(-1)", x -> x.elsewhere(-1));
        for (int what = 0; what < 3; what++) {
            int w = what;
            asks("27: winter(9999, 99, " + w + ")", x -> x.winter(9999, 99, w));
            asks("27: winter(1, 3, " + w + ")", x -> x.winter(1, 3, w));
        }
    }

    /** The call changes just what is named, of all that the object tells. */
    private static void changes(String name, Call call, String what) {
        SnowTalk called = Everything.rich(PAD);
        call.on(called);
        String got = Everything.differences(called, Everything.rich(PAD));
        C.holds(name + " changes " + got + ", due is " + what, got.equals(what));
    }

    /** The call, and one more that undoes it, leave all as it was. */
    private static void undone(String name, Call call, Call back) {
        SnowTalk called = Everything.rich(PAD);
        call.on(called);
        back.on(called);
        C.holds(name + " and back leaves all as it was", Everything.all(called).equals(Everything.all(Everything.rich(PAD))));
    }

    private static void numbers() {
        for (int garden = 0; garden < 7; garden++) {
            int g = garden;
            changes("3: how deep " + g + " is", x -> x.garden(g, 0, 77), "[deep " + g + "]");
            undone("3: how deep " + g + " is", x -> x.garden(g, 0, 77), x -> x.garden(g, 0, new int[] {7, 3, 0, 4, 4, 25, 2}[g]));
            changes("3: the roof of " + g, x -> x.garden(g, 1, 77), g == 1 ? "[fallen 1, told 11]" : "[told " + (10 + g) + "]");
        }
        changes("3: the same roof anew", x -> x.garden(1, 1, 3), "[fallen 1]");
        undone("3: the roof of 0", x -> x.garden(0, 1, 77), x -> x.garden(0, 1, 20));
        int[] are = {2, 4, 3, 5};
        for (int which = 0; which < 4; which++) {
            int w = which;
            changes("4: number " + w, x -> x.set(w, 9), "[told " + (3 + w) + "]");
            undone("4: number " + w, x -> x.set(w, 9), x -> x.set(w, are[w]));
        }
    }

    private static void pad() {
        changes("5: a sign", x -> x.say('.'), "[told 0]");
        changes("6: no signs", x -> x.wipe(), "[told 0]");
        undone("6: no signs", x -> x.wipe(), x -> {
            Check.write(x, PAD);
            return 0;
        });
    }

    private static void talks() {
        // a gets 2 (it was of G, so not again), and the roof of f falls behind that word; the night gives one from a, b
        // and f; salt in c takes one from b and d, too; g gets 4 and 3, for it is of A again.
        changes("9: done", x -> x.done(), "[deep 0, deep 1, deep 3, deep 5, deep 6, fallen 5, told 0]");
        SnowTalk x = Everything.rich(PAD);
        x.done();
        C.deep("9: done", x, "8 2 0 3 4 24 10");
        changes("9: done of nothing", y -> y.wipe() + y.done(), "[told 0]");
    }

    private static void sights() {
        changes("19: a sight", x -> x.seen(3, 3), "[told 7]");
        changes("20: no sights", x -> x.forget(), "[told 7]");
        undone("20: no sights", x -> x.forget(), x -> {
            x.seen(2, 1);
            return x.seen(0, 6);
        });
    }

    private static void gardens() {
        // FLAKES (told 3 to 5), SHOVEL (6), the PAD (0) stay; IMAGES are looked at in GardensTest.
        changes("2: as many gardens", x -> x.gardens(7), "[deep 0, deep 1, deep 3, deep 4, deep 5, deep 6, fallen 1, "
                + "recognised 0, recognised 1, recognised 3, recognised 4, recognised 6, told 11, told 14, told 2, told 7]");
    }

    private static void images() {
        changes("28: image(0)", x -> x.image(0), "[]");
        changes("28: image(1)", x -> x.image(1), "[]");
        SnowTalk changed = Everything.rich(PAD);
        SnowTalk other = Everything.rich(PAD);
        changed.image(1);
        other.image(1);
        changed.gardens(3);
        changed.set(0, 9);
        changed.set(3, 9);
        changed.seen(0, 0);
        Check.tell(changed, "aBlbClw");
        Check.write(changed, PAD);
        changed.restore(1);
        C.holds("29: all is as it was when it was kept", Everything.all(changed).equals(Everything.all(other)));
    }
}
