/** Promises 1 to 7: a new object, gardens, garden, set, say, wipe, fault. */
public final class GardensTest {
    private static final Check C = new Check("GardensTest");

    public static void main(String[] args) {
        newObject();
        gardens();
        garden();
        set();
        say();
        wipe();
        fault();
        C.end();
    }

    private static void newObject() {
        SnowTalk x = new SnowTalk();
        int[] first = {0, 6, 0, 1, 3, 1, 4, 0};
        for (int i = 0; i < first.length; i++) {
            C.due("1: told(" + i + ")", x.told(i), first[i]);
        }
        for (int g = 0; g < 6; g++) {
            C.due("1: roof", x.told(10 + g), 20);
            C.due("1: fallen", x.state(g, 1), 0);
            C.due("1: recognised", x.recognised(g), SnowTalk.NONE);
        }
        C.deep("1: new", x, "0 0 0 0 0 0");
        C.due("1: no image 0", x.restore(0), SnowTalk.STATE);
        C.due("1: no image 1", x.restore(1), SnowTalk.STATE);
        C.due("1: another object is by itself", new SnowTalk().garden(0, 0, 9) + x.state(0, 0), 0);
    }

    private static void gardens() {
        SnowTalk x = new SnowTalk();
        C.due("2: gardens(1)", x.gardens(1), SnowTalk.OUTSIDE);
        C.due("2: gardens(9)", x.gardens(9), SnowTalk.OUTSIDE);
        C.due("2: gardens(-3)", x.gardens(-3), SnowTalk.OUTSIDE);
        C.due("2: gardens(8)", x.gardens(8), 6);
        C.due("2: gardens(2)", x.gardens(2), 8);
        C.due("2: gardens(2) again", x.gardens(2), 2);
        C.due("2: there is no garden 2", x.state(2, 0), SnowTalk.UNKNOWN);
        x.gardens(8);
        C.due("2: there is a garden 7", x.state(7, 0), 0);
        resets();
        refusedResetsNothing();
    }

    private static void resets() {
        SnowTalk x = new SnowTalk();
        for (int which = 0; which < 4; which++) {
            x.set(which, 5 + which);
        }
        x.garden(1, 1, 2);
        Check.tell(x, "bAlbAlaBlw");
        Check.tell(x, "bAlcAt");
        x.seen(0, 3);
        x.image(0);
        Check.write(x, "aB");
        C.due("2: fallen before", x.state(1, 1), 1);
        C.due("2: gardens(6) is all anew", x.gardens(6), 6);
        C.deep("2: no snow", x, "0 0 0 0 0 0");
        C.due("2: roof anew", x.told(11), 20);
        C.due("2: not fallen", x.state(1, 1), 0);
        C.due("2: brook", x.told(2), 0);
        C.due("2: sights", x.told(7), 0);
        C.due("2: nobody recognised", x.recognised(1), SnowTalk.NONE);
        C.due("2: the pad stays", x.told(0), 2);
        for (int which = 0; which < 4; which++) {
            C.due("2: number " + which + " stays", x.told(3 + which), 5 + which);
        }
        Check.tell(x, "bAl");
        C.due("2: nothing is said again", x.state(1, 0), 6);
        C.due("2: images stay", x.restore(0), 1);
        C.due("2: as kept", x.state(1, 1), 1);
    }

    private static void refusedResetsNothing() {
        SnowTalk x = new SnowTalk();
        x.garden(0, 0, 7);
        x.gardens(9);
        C.due("2: a refused call changes nothing", x.state(0, 0), 7);
    }

    private static void garden() {
        SnowTalk x = new SnowTalk();
        C.due("3: depth", x.garden(3, 0, 999), 0);
        C.due("3: depth was", x.garden(3, 0, 0), 999);
        C.due("3: roof", x.garden(3, 1, 999), 20);
        C.due("3: roof was", x.garden(3, 1, 0), 999);
        C.due("3: no garden -1", x.garden(-1, 0, 0), SnowTalk.UNKNOWN);
        C.due("3: no garden 6", x.garden(6, 9, 9999), SnowTalk.UNKNOWN);
        C.due("3: what -1", x.garden(0, -1, 0), SnowTalk.OUTSIDE);
        C.due("3: what 2", x.garden(0, 2, 0), SnowTalk.OUTSIDE);
        C.due("3: v -1", x.garden(0, 0, -1), SnowTalk.OUTSIDE);
        C.due("3: v 1000", x.garden(0, 1, 1000), SnowTalk.OUTSIDE);
        C.due("3: nothing changed", x.told(10), 20);
        x.garden(3, 0, 5);
        C.due("3: it does not fall by itself", x.state(3, 1), 0);
        Check.tell(x, ".");
        C.due("3: it falls behind a word", x.state(3, 1), 1);
        x.garden(3, 0, 0);
        C.due("3: and stays so", x.state(3, 1), 1);
        x.garden(3, 0, 9);
        C.due("3: a new roof", x.garden(3, 1, 8), 0);
        C.due("3: has not fallen, though it is deeper", x.state(3, 1), 0);
    }

    private static void set() {
        SnowTalk x = new SnowTalk();
        int[] first = {1, 3, 1, 4};
        for (int which = 0; which < 4; which++) {
            C.due("4: set(" + which + ", 9)", x.set(which, 9), first[which]);
            C.due("4: set(" + which + ", 10)", x.set(which, 10), SnowTalk.OUTSIDE);
            C.due("4: set(" + which + ", -1)", x.set(which, -1), SnowTalk.OUTSIDE);
            C.due("4: set(" + which + ", 0)", x.set(which, 0), which == 3 ? SnowTalk.OUTSIDE : 9);
            C.due("4: is", x.told(3 + which), which == 3 ? 9 : 0);
        }
        C.due("4: set(3, 1)", x.set(3, 1), 9);
        C.due("4: set(-1, 1)", x.set(-1, 1), SnowTalk.OUTSIDE);
        C.due("4: set(4, 1)", x.set(4, 1), SnowTalk.OUTSIDE);
        SnowTalk y = new SnowTalk();
        y.set(0, 2);
        y.set(1, 7);
        y.set(2, 5);
        y.set(3, 3);
        Check.tell(y, "aBtbAlaBlaB+");
        C.deep("4: the numbers are used", y, "11 7 0 0 0 0");
    }

    private static void say() {
        SnowTalk x = new SnowTalk();
        C.due("5: say(32)", x.say(32), SnowTalk.OUTSIDE);
        C.due("5: say(127)", x.say(127), SnowTalk.OUTSIDE);
        C.due("5: say(-1)", x.say(-1), SnowTalk.OUTSIDE);
        C.due("5: nothing is there", x.told(0), 0);
        C.due("5: say(33)", x.say(33), 1);
        C.due("5: say(126)", x.say(126), 2);
        for (int i = 3; i <= 60; i++) {
            C.due("5: sign " + i, x.say('.'), i);
        }
        C.due("5: a 61st", x.say('.'), SnowTalk.FULL);
        C.due("5: a 61st that is none", x.say(32), SnowTalk.OUTSIDE);
        C.due("5: still 60", x.told(0), 60);
    }

    private static void wipe() {
        SnowTalk x = new SnowTalk();
        C.due("6: nothing there", x.wipe(), 0);
        Check.write(x, "aBt");
        C.due("6: three", x.wipe(), 3);
        C.due("6: none left", x.wipe(), 0);
        Check.write(x, "bAt");
        C.due("6: what is said next is all", x.done(), 1);
        C.deep("6: the new one", x, "0 1 0 0 0 0");
    }

    private static void fault() {
        String[] fine = {"", ".", "w", "aBt", "aBl", "aB+", "a*", "f*fAt", "aAt", "aA+", "..ww.", "aBtaBl.waC+b*", "eFl"};
        for (String text : fine) {
            C.due("7: " + text, Check.with(text).fault(), SnowTalk.NONE);
        }
        String[] wrong = {
            "x", "0", "A", "0", "t", "0", "*", "0", "+", "0", "W", "0", "g", "0", "`", "0", "g*", "0",
            "a", "1", "aB", "2", "aBta", "4", "aBtbC", "5", "ab", "1", "a.", "1", "aG", "1", "aGt", "1", "a@t", "1",
            "at", "1", "aB*", "2", "aBw", "2", "aB.", "2", "aBT", "2", "a*t", "2", "a**", "2", "..x", "2", "aBtx", "3",
        };
        for (int i = 0; i < wrong.length; i += 2) {
            C.due("7: " + wrong[i], Check.with(wrong[i]).fault(), Integer.parseInt(wrong[i + 1]));
        }
        SnowTalk x = Check.with("hGt");
        C.due("7: six gardens", x.fault(), 0);
        x.gardens(8);
        C.due("7: eight gardens", x.fault(), SnowTalk.NONE);
        x.gardens(7);
        C.due("7: seven gardens", x.fault(), 0);
        Check.write(x, "gHt");
        C.due("7: seven neighbours", x.fault(), 1);
        SnowTalk full = new SnowTalk();
        for (int i = 0; i < 59; i++) {
            full.say('.');
        }
        full.say('a');
        C.due("7: more must come behind 60", full.fault(), 60);
    }
}
