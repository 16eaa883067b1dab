import java.util.ArrayList;
import java.util.List;
import java.util.Random;

/** Runs of calls by draws, with fixed seeds, on SnowTalk and on its twin side by side. */
public final class TwinTest {
    private static final int RUNS = 600;
    // A step makes at most some 75 calls: no object is used for more than 512.
    private static final int CALLS = 430;

    private final Random random;
    private final SnowTalk x = new SnowTalk();
    private final Twin twin = new Twin();
    private final List<String> calls = new ArrayList<>();
    private boolean same = true;
    // Most runs stay near small depths, where roofs, nights and rows differ; some go to the edge of 999.
    private final int deepest;

    private TwinTest(long seed) {
        random = new Random(seed);
        int[] edges = {4, 12, 30, 999};
        deepest = edges[random.nextInt(edges.length)];
    }

    public static void main(String[] args) {
        int wrong = 0;
        int first = args.length > 0 ? Integer.parseInt(args[0]) : 0;
        int runs = args.length > 1 ? Integer.parseInt(args[1]) : RUNS;
        for (int seed = first; seed < first + runs && wrong < 3; seed++) {
            TwinTest test = new TwinTest(seed);
            if (!test.run()) {
                wrong++;
                System.out.println("seed " + seed + ", gone wrong in the last of:");
                int from = Math.max(0, test.calls.size() - 60);
                System.out.println("  " + String.join(" ", test.calls.subList(from, test.calls.size())));
            }
        }
        System.out.println(wrong == 0 ? "TwinTest: all answers alike" : "TwinTest: answers differ");
        if (wrong != 0) {
            System.exit(1);
        }
    }

    private boolean run() {
        while (same && calls.size() < CALLS) {
            step();
        }
        return same;
    }

    private void due(String call, long got, long want) {
        calls.add(call + "=" + got);
        if (got != want) {
            same = false;
            System.out.println(call + " answered " + got + ", the twin says " + want);
        }
    }

    /** Mostly a number within, now and then one just outside, or far off. */
    private int number(int least, int most) {
        int draw = random.nextInt(60);
        if (draw == 0) {
            return least - 1;
        }
        if (draw == 1) {
            return most + 1;
        }
        if (draw == 2) {
            return random.nextInt();
        }
        return least + random.nextInt(most - least + 1);
    }

    private int depth() {
        if (deepest == 999 && random.nextInt(2) == 0) {
            return number(980, 999);
        }
        return number(0, deepest);
    }

    private int anyGarden() {
        return number(0, twin.w.n - 1);
    }

    private void sayAll(String text) {
        for (int i = 0; i < text.length() && same; i++) {
            due("say(" + (int) text.charAt(i) + ")", x.say(text.charAt(i)), twin.say(text.charAt(i)));
        }
    }

    private String word(String kinds) {
        char kind = kinds.charAt(random.nextInt(kinds.length()));
        int n = twin.w.n;
        char g = (char) ('a' + random.nextInt(n));
        char of = (char) ('A' + random.nextInt(n));
        for (int again = 0; again < 3 && of - 'A' == g - 'a'; again++) {
            of = (char) ('A' + random.nextInt(n));
        }
        if (kind == '.' || kind == 'w') {
            return "" + kind;
        }
        return kind == '*' ? "" + g + kind : "" + g + of + kind;
    }

    private void newTalk() {
        due("wipe()", x.wipe(), twin.wipe());
        String kinds = random.nextInt(3) == 0 ? "tl" : "ttllll+*.w";
        int count = kinds.length() == 2 ? 1 + random.nextInt(5) : random.nextInt(12);
        StringBuilder text = new StringBuilder();
        for (int i = 0; i < count; i++) {
            text.append(word(kinds));
        }
        if (random.nextInt(10) == 0 && text.length() > 0) {
            String odd = "abchiABCHItl+*.wx";
            text.setCharAt(random.nextInt(text.length()), odd.charAt(random.nextInt(odd.length())));
        }
        if (random.nextInt(30) == 0) {
            while (text.length() < 62) {
                text.append("..aBlwaBtbA+".charAt(random.nextInt(12)));
            }
        }
        sayAll(text.toString());
        due("fault()", x.fault(), twin.fault());
        due("judge(0)", x.judge(0), twin.judge(0));
        due("judge(1)", x.judge(1), twin.judge(1));
    }

    private void step() {
        switch (random.nextInt(8)) {
            case 0:
                talkStep();
                break;
            case 1:
            case 2:
                settingStep();
                break;
            case 3:
                lookStep();
                break;
            case 4:
                clearStep();
                break;
            case 5:
                sightStep();
                break;
            case 6:
                chanceStep();
                break;
            default:
                keepStep();
                break;
        }
    }

    private void talkStep() {
        newTalk();
        int i = number(-1, 4);
        due("where(" + i + ")", x.where(i), twin.where(i));
        due("first()", x.first(), twin.first());
        int g = anyGarden();
        int what = number(0, 1);
        due("behind(" + g + "," + what + ")", x.behind(g, what), twin.behind(g, what));
        if (random.nextInt(3) != 0) {
            due("done()", x.done(), twin.done());
            due("done()", x.done(), twin.done());
        }
    }

    private void settingStep() {
        int draw = random.nextInt(20);
        if (draw == 0) {
            int n = number(2, 8);
            due("gardens(" + n + ")", x.gardens(n), twin.gardens(n));
        } else if (draw < 5) {
            int which = number(0, 3);
            int v = number(0, 9);
            due("set(" + which + "," + v + ")", x.set(which, v), twin.set(which, v));
        } else if (draw < 6) {
            int sign = number(33, 126);
            due("say(" + sign + ")", x.say(sign), twin.say(sign));
        } else {
            int g = anyGarden();
            int what = number(0, 1);
            int v = depth();
            due("garden(" + g + "," + what + "," + v + ")", x.garden(g, what, v), twin.garden(g, what, v));
        }
    }

    private void lookStep() {
        int g = anyGarden();
        int what = number(0, 1);
        due("state(" + g + "," + what + ")", x.state(g, what), twin.state(g, what));
        g = anyGarden();
        due("recognised(" + g + ")", x.recognised(g), twin.recognised(g));
        what = number(0, 18);
        due("told(" + what + ")", x.told(what), twin.told(what));
        what = number(0, 1);
        due("judge(" + what + ")", x.judge(what), twin.judge(what));
        g = number(-1, twin.w.n - 1);
        due("elsewhere(" + g + ")", x.elsewhere(g), twin.elsewhere(g));
    }

    private void clearStep() {
        int v = random.nextBoolean() ? number(0, 3) : depth();
        due("cleared(" + v + ")", x.cleared(v), twin.cleared(v));
        v = random.nextBoolean() ? number(0, 3) : depth();
        due("salted(" + v + ")", x.salted(v), twin.salted(v));
        int g = anyGarden();
        v = random.nextBoolean() ? number(1, 4) : depth();
        int what = number(0, 1);
        due("slide(" + g + "," + v + "," + what + ")", x.slide(g, v, what), twin.slide(g, v, what));
        g = anyGarden();
        due("holds(" + g + ")", x.holds(g), twin.holds(g));
    }

    private void sightStep() {
        int g = anyGarden();
        // A sight near what is there lets some rows fit.
        int deep = Twin.out(g, 0, twin.w.n - 1) ? depth() : twin.w.deep.get(g) + random.nextInt(5) - 1;
        if (random.nextInt(4) != 0) {
            due("seen(" + g + "," + deep + ")", x.seen(g, deep), twin.seen(g, deep));
        }
        int m = random.nextInt(3) == 0 ? number(0, 3) : number(0, 2);
        int what = number(0, 2);
        due("who(" + m + "," + what + ")", x.who(m, what), twin.who(m, what));
        m = random.nextInt(6) == 0 ? number(0, 3) : number(0, 2);
        what = number(0, 1);
        due("next(" + m + "," + what + ")", x.next(m, what), twin.next(m, what));
        lawStep();
        if (random.nextInt(2) == 0) {
            due("forget()", x.forget(), twin.forget());
        }
    }

    private void lawStep() {
        if (random.nextInt(3) != 0) {
            return;
        }
        due("forget()", x.forget(), twin.forget());
        newTalk();
        for (int k = random.nextInt(3); k > 0; k--) {
            int g = anyGarden();
            int deep = number(0, 6);
            due("seen(" + g + "," + deep + ")", x.seen(g, deep), twin.seen(g, deep));
        }
        int i = number(-1, 20);
        due("laws(-1)", x.laws(-1), twin.laws(-1));
        due("laws(" + i + ")", x.laws(i), twin.laws(i));
    }

    private void chanceStep() {
        int g = anyGarden();
        int t = number(0, 10);
        int m = random.nextInt(10) == 0 ? number(0, 12) : number(0, 7);
        int part = number(0, 1);
        due("guests(" + g + "," + t + "," + m + "," + part + ")", x.guests(g, t, m, part), twin.guests(g, t, m, part));
        g = anyGarden();
        t = number(0, 10);
        m = random.nextInt(10) == 0 ? number(0, 12) : number(0, 7);
        int b = number(1, 100);
        int a = random.nextInt(5) == 0 ? b : number(0, Math.max(1, Math.min(100, b)));
        due("build(" + g + "," + t + "," + m + "," + a + "," + b + ")", x.build(g, t, m, a, b), twin.build(g, t, m, a, b));
        int seed = number(0, 9999);
        m = number(1, 99);
        for (int what = 0; what < 3; what++) {
            due("winter(" + seed + "," + m + "," + what + ")", x.winter(seed, m, what), twin.winter(seed, m, what));
        }
        int what = number(0, 2);
        due("winter(" + seed + "," + m + "," + what + ")", x.winter(seed, m, what), twin.winter(seed, m, what));
    }

    private void keepStep() {
        int n = number(0, 1);
        if (random.nextInt(3) == 0) {
            due("restore(" + n + ")", x.restore(n), twin.restore(n));
        } else {
            due("image(" + n + ")", x.image(n), twin.image(n));
        }
    }
}
