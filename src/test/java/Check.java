/** Counts the answers that are not as due, and tells them. */
final class Check {
    private final String test;
    private int wrong = 0;

    Check(String test) {
        this.test = test;
    }

    void due(String call, long got, long want) {
        if (got != want) {
            wrong++;
            System.out.println(test + ": " + call + " answered " + got + ", due is " + want);
        }
    }

    void holds(String what, boolean is) {
        if (!is) {
            wrong++;
            System.out.println(test + ": not so: " + what);
        }
    }

    /** A fresh object with this text on its pad. */
    static SnowTalk with(String text) {
        SnowTalk x = new SnowTalk();
        write(x, text);
        return x;
    }

    /** Puts this text on the pad in place of what was there. */
    static void write(SnowTalk x, String text) {
        x.wipe();
        for (int i = 0; i < text.length(); i++) {
            x.say(text.charAt(i));
        }
    }

    /** Does this text at once. */
    static int tell(SnowTalk x, String text) {
        write(x, text);
        return x.done();
    }

    /** How deep the gardens are, one after another, as "1 0 0". */
    static String depths(SnowTalk x) {
        StringBuilder all = new StringBuilder();
        for (int g = 0; g < x.told(1); g++) {
            all.append(g == 0 ? "" : " ").append(x.state(g, 0));
        }
        return all.toString();
    }

    void deep(String when, SnowTalk x, String want) {
        String got = depths(x);
        holds(when + ": depths are " + got + ", due is " + want, got.equals(want));
    }

    /** Sets how deep the gardens from 0 on are. */
    static void snow(SnowTalk x, int... depths) {
        for (int g = 0; g < depths.length; g++) {
            x.garden(g, 0, depths[g]);
        }
    }

    void end() {
        System.out.println(test + (wrong == 0 ? ": all as due" : ": " + wrong + " not as due"));
        if (wrong != 0) {
            System.exit(1);
        }
    }
}
