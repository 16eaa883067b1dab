import java.util.LinkedHashMap;
import java.util.Map;
import java.util.TreeSet;

/** An object in which nothing is as at first, and all that can be seen of an object. */
final class Everything {
    private static final int MOST_GARDENS = 8;

    private Everything() {
    }

    /**
     * Seven gardens, 7 3 0 4 4 25 2 deep: the roof of b has fallen, that of f
     * bears less than lies there but has not yet; words said, a thaw's snow in
     * the brook, two sights, image 0 kept of something else, this text on the pad.
     */
    static SnowTalk rich(String pad) {
        SnowTalk x = new SnowTalk();
        x.gardens(5);
        for (int which = 0; which < 4; which++) {
            x.set(which, 9 - which);
        }
        Check.tell(x, "cAlwcBt");
        x.seen(2, 4);
        x.image(0);
        x.gardens(7);
        int[] numbers = {2, 4, 3, 5};
        for (int which = 0; which < 4; which++) {
            x.set(which, numbers[which]);
        }
        x.garden(1, 1, 3);
        x.garden(4, 1, 30);
        Check.tell(x, "bAlw");
        Check.tell(x, "bCtdAlaGtaGteBlgAt");
        x.garden(5, 0, 25);
        x.seen(2, 1);
        x.seen(0, 6);
        Check.write(x, pad);
        return x;
    }

    /** What the object tells outright: nothing is changed by looking. */
    static Map<String, Integer> look(SnowTalk x) {
        Map<String, Integer> all = new LinkedHashMap<>();
        for (int what = 0; what < 10 + MOST_GARDENS; what++) {
            if (what != 8 && what != 9) {
                all.put("told " + what, x.told(what));
            }
        }
        for (int g = 0; g < MOST_GARDENS; g++) {
            all.put("deep " + g, x.state(g, 0));
            all.put("fallen " + g, x.state(g, 1));
            all.put("recognised " + g, x.recognised(g));
        }
        return all;
    }

    /** The names of what one tells otherwise than the other, in the order of the alphabet, as "[deep 0, told 2]". */
    static String differences(SnowTalk x, SnowTalk y) {
        Map<String, Integer> ofX = look(x);
        Map<String, Integer> ofY = look(y);
        TreeSet<String> names = new TreeSet<>();
        for (String name : ofX.keySet()) {
            if (!ofX.get(name).equals(ofY.get(name))) {
                names.add(name);
            }
        }
        return names.toString();
    }

    /**
     * All that can be found out, also by using the object up: what it tells,
     * what is on its pad, which sights there are, of whom something was said
     * where, what the images keep. Some 270 calls.
     */
    static String all(SnowTalk x) {
        StringBuilder all = new StringBuilder();
        all.append(look(x));
        pad(x, all);
        sights(x, all);
        all.append(" done ").append(x.done()).append(look(x));
        again(x, all);
        for (int n = 0; n < 2; n++) {
            all.append(" restore ").append(x.restore(n)).append(look(x)).append(x.who(0, 0));
        }
        return all.toString();
    }

    private static void pad(SnowTalk x, StringBuilder all) {
        all.append(" pad");
        int[] answers = {x.fault(), x.judge(0), x.judge(1), x.first(), x.where(-1), x.where(0), x.where(1)};
        for (int answer : answers) {
            all.append(' ').append(answer);
        }
        for (int g = 0; g < x.told(1); g++) {
            all.append(' ').append(x.behind(g, 0)).append(' ').append(x.behind(g, 1));
        }
    }

    private static void sights(SnowTalk x, StringBuilder all) {
        all.append(" sights");
        int[] answers = {x.who(0, 0), x.who(1, 0), x.who(1, 1), x.who(1, 2), x.who(2, 0), x.next(1, 0), x.next(1, 1)};
        for (int answer : answers) {
            all.append(' ').append(answer);
        }
    }

    /** Words by which it gets deeper only if they are said again. */
    private static void again(SnowTalk x, StringBuilder all) {
        x.set(0, 0);
        x.set(2, 9);
        for (int g = 0; g < x.told(1); g++) {
            x.garden(g, 0, 0);
        }
        Check.write(x, "bAtbCtdAtdBtaGtaBteBteAtgAtgBtcAtcBt");
        all.append(" again");
        for (int g = 0; g < x.told(1); g++) {
            all.append(' ').append(x.behind(g, 0));
        }
    }
}
