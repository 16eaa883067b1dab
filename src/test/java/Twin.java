import java.math.BigInteger;
import java.util.ArrayDeque;
import java.util.ArrayList;
import java.util.Arrays;
import java.util.HashMap;
import java.util.HashSet;
import java.util.List;
import java.util.Map;
import java.util.Set;

/** The document's words done the slow way, by trying everything: what SnowTalk is compared with. */
final class Twin {
    static final int NONE = -6, UNKNOWN = -1, OUTSIDE = -2, STATE = -3, FULL = -4, NO = -5;
    static final long LOST = -1000000000000000000L;

    /** All but the pad and the images. */
    static final class World {
        int n = 6;
        int t = 1;
        int l = 3;
        int again = 1;
        int shovel = 4;
        List<Integer> deep = new ArrayList<>();
        List<Integer> roof = new ArrayList<>();
        Set<Integer> fallen = new HashSet<>();
        int brook;
        Set<String> said = new HashSet<>();
        Map<String, Integer> flakes = new HashMap<>();
        List<int[]> sights = new ArrayList<>();

        World() {
            asAtFirst(6);
        }

        void asAtFirst(int gardens) {
            n = gardens;
            deep = new ArrayList<>();
            roof = new ArrayList<>();
            for (int i = 0; i < n; i++) {
                deep.add(0);
                roof.add(20);
            }
            fallen = new HashSet<>();
            brook = 0;
            said = new HashSet<>();
            flakes = new HashMap<>();
            sights = new ArrayList<>();
        }

        World copy() {
            World w = new World();
            w.n = n;
            w.t = t;
            w.l = l;
            w.again = again;
            w.shovel = shovel;
            w.deep = new ArrayList<>(deep);
            w.roof = new ArrayList<>(roof);
            w.fallen = new HashSet<>(fallen);
            w.brook = brook;
            w.said = new HashSet<>(said);
            w.flakes = new HashMap<>(flakes);
            w.sights = new ArrayList<>(sights);
            return w;
        }

        int more(String word) {
            String pair = word.substring(0, 2);
            return (word.charAt(2) == 't' ? t : l) + (said.contains(pair) ? again : 0);
        }

        /** Why a word can not be; 0. */
        int why(String word) {
            if (word.length() == 1) {
                return 0;
            }
            int g = word.charAt(0) - 'a';
            if (word.length() == 2) {
                int sum = deep.get(g);
                sum += g > 0 ? deep.get(g - 1) : 0;
                sum += g + 1 < n ? deep.get(g + 1) : 0;
                return sum == 0 ? 2 : 0;
            }
            if (word.charAt(1) - 'A' == g) {
                return 1;
            }
            if (word.charAt(2) == '+') {
                return deep.get(g) == 0 ? 2 : 0;
            }
            return deep.get(g) + more(word) > 999 ? 3 : 0;
        }

        void less(int g, int by) {
            if (g >= 0 && g < n) {
                deep.set(g, Math.max(deep.get(g) - by, 0));
            }
        }

        /** What a word does, without roofs. */
        void snow(String word) {
            if (word.equals(".")) {
                List<Integer> was = new ArrayList<>(deep);
                for (int g = 0; g + 1 < n; g++) {
                    if (was.get(g) - was.get(g + 1) >= 2) {
                        deep.set(g, deep.get(g) - 1);
                        deep.set(g + 1, deep.get(g + 1) + 1);
                    }
                }
                return;
            }
            if (word.equals("w")) {
                int before = together();
                for (int g = 0; g < n; g++) {
                    less(g, 3);
                }
                brook += before - together();
                said.clear();
                flakes.clear();
                return;
            }
            int g = word.charAt(0) - 'a';
            if (word.length() == 2) {
                less(g, 2);
                less(g - 1, 1);
                less(g + 1, 1);
            } else if (word.charAt(2) == '+') {
                less(g, shovel);
            } else {
                int m = more(word);
                deep.set(g, deep.get(g) + m);
                flakes.merge(word.substring(0, 2), m, Integer::sum);
                said.add(word.substring(0, 2));
            }
        }

        boolean roofs() {
            boolean some = false;
            for (int g = 0; g < n; g++) {
                if (deep.get(g) > roof.get(g)) {
                    some |= fallen.add(g);
                }
            }
            return some;
        }

        int together() {
            int sum = 0;
            for (int d : deep) {
                sum += d;
            }
            return sum;
        }

        boolean sightsHold() {
            for (int[] s : sights) {
                if (deep.get(s[0]) != s[1]) {
                    return false;
                }
            }
            return true;
        }

        boolean isSeen(int g) {
            for (int[] s : sights) {
                if (s[0] == g) {
                    return true;
                }
            }
            return false;
        }
    }

    World w = new World();
    final World[] images = new World[2];
    StringBuilder pad = new StringBuilder();

    boolean un(int g) {
        return g < 0 || g >= w.n;
    }

    static boolean out(int v, int a, int b) {
        return v < a || v > b;
    }

    int gardens(int n) {
        if (out(n, 2, 8)) {
            return OUTSIDE;
        }
        int was = w.n;
        w.asAtFirst(n);
        return was;
    }

    int garden(int g, int what, int v) {
        if (un(g)) {
            return UNKNOWN;
        }
        if (out(what, 0, 1) || out(v, 0, 999)) {
            return OUTSIDE;
        }
        if (what == 0) {
            return w.deep.set(g, v);
        }
        w.fallen.remove(g);
        return w.roof.set(g, v);
    }

    int set(int which, int v) {
        if (out(which, 0, 3) || out(v, 0, 9) || which == 3 && v == 0) {
            return OUTSIDE;
        }
        int was;
        if (which == 0) {
            was = w.t;
            w.t = v;
        } else if (which == 1) {
            was = w.l;
            w.l = v;
        } else if (which == 2) {
            was = w.again;
            w.again = v;
        } else {
            was = w.shovel;
            w.shovel = v;
        }
        return was;
    }

    int say(int sign) {
        if (out(sign, 33, 126)) {
            return OUTSIDE;
        }
        if (pad.length() == 60) {
            return FULL;
        }
        pad.append((char) sign);
        return pad.length();
    }

    int wipe() {
        int were = pad.length();
        pad = new StringBuilder();
        return were;
    }

    /** The words that the text begins with; the text left over is the last one. */
    List<String> words() {
        char last = (char) ('a' + w.n - 1);
        char lastBig = (char) ('A' + w.n - 1);
        String form = "[.w]|[a-" + last + "]\\*|[a-" + last + "][A-" + lastBig + "][tl+]";
        List<String> words = new ArrayList<>();
        String text = pad.toString();
        while (!text.isEmpty()) {
            int size = 0;
            for (int k = 1; k <= 3 && k <= text.length(); k++) {
                if (text.substring(0, k).matches(form)) {
                    size = k;
                }
            }
            if (size == 0) {
                words.add(text);
                return words;
            }
            words.add(text.substring(0, size));
            text = text.substring(size);
        }
        words.add("");
        return words;
    }

    /** The longest beginning that some talk begins with ends at the fault. */
    int fault() {
        List<String> words = words();
        String rest = words.remove(words.size() - 1);
        if (rest.isEmpty()) {
            return NONE;
        }
        int start = pad.length() - rest.length();
        if (out(rest.charAt(0) - 'a', 0, w.n - 1)) {
            return start;
        }
        if (rest.length() == 1) {
            return pad.length();
        }
        if (out(rest.charAt(1) - 'A', 0, w.n - 1)) {
            return start + 1;
        }
        return start + 2;
    }

    List<String> talk() {
        List<String> words = words();
        words.remove(words.size() - 1);
        return words;
    }

    /** Runs the talk: the first word that can not be, why, the first behind which a roof fell. */
    int[] run(World on) {
        int first = NONE;
        List<String> words = talk();
        for (int i = 0; i < words.size(); i++) {
            int why = on.why(words.get(i));
            if (why != 0) {
                return new int[] {i, why, NO};
            }
            on.snow(words.get(i));
            if (on.roofs() && first == NONE) {
                first = i;
            }
        }
        return new int[] {NONE, NONE, first};
    }

    int judge(int what) {
        if (out(what, 0, 1)) {
            return OUTSIDE;
        }
        return fault() != NONE ? NO : run(w.copy())[what];
    }

    int done() {
        if (fault() != NONE || run(w.copy())[0] != NONE) {
            return NO;
        }
        run(w);
        int size = talk().size();
        pad = new StringBuilder();
        return size;
    }

    int look(World on, int g, int what) {
        return what == 0 ? on.deep.get(g) : on.fallen.contains(g) ? 1 : 0;
    }

    int state(int g, int what) {
        if (un(g)) {
            return UNKNOWN;
        }
        return out(what, 0, 1) ? OUTSIDE : look(w, g, what);
    }

    int behind(int g, int what) {
        if (un(g)) {
            return UNKNOWN;
        }
        if (out(what, 0, 1)) {
            return OUTSIDE;
        }
        World on = w.copy();
        if (fault() != NONE || run(on)[0] != NONE) {
            return NO;
        }
        return look(on, g, what);
    }

    int first() {
        return fault() != NONE ? NO : run(w.copy())[2];
    }

    int recognised(int g) {
        if (un(g)) {
            return UNKNOWN;
        }
        int best = NONE;
        int most = 0;
        for (int i = 0; i < w.n; i++) {
            int f = w.flakes.getOrDefault("" + (char) ('a' + g) + (char) ('A' + i), 0);
            if (f > most) {
                most = f;
                best = i;
            }
        }
        return best;
    }

    int where(int i) {
        if (fault() != NONE) {
            return NO;
        }
        List<String> words = talk();
        for (String word : words) {
            if (!word.matches("..[tl]") || word.charAt(0) - 'a' == word.charAt(1) - 'A') {
                return NO;
            }
        }
        if (words.size() > 4) {
            return FULL;
        }
        int all = 1;
        for (int k = 0; k < words.size(); k++) {
            all *= w.n + 1;
        }
        int[] best = null;
        int fewest = 99;
        for (int code = 0; code < all; code++) {
            int[] at = new int[words.size()];
            int left = code;
            int unsaid = 0;
            for (int k = words.size() - 1; k >= 0; k--) {
                at[k] = left % (w.n + 1);
                left /= w.n + 1;
                unsaid += at[k] == w.n ? 1 : 0;
            }
            if (unsaid < fewest && canPlace(words, at)) {
                fewest = unsaid;
                best = at;
            }
        }
        if (i == -1) {
            return fewest;
        }
        if (i < 0 || i >= words.size()) {
            return NONE;
        }
        return best[i] == w.n ? NONE : best[i];
    }

    boolean canPlace(List<String> words, int[] at) {
        World on = w.copy();
        for (int k = 0; k < at.length; k++) {
            if (at[k] == w.n) {
                continue;
            }
            String word = (char) ('a' + at[k]) + words.get(k).substring(1);
            if (on.why(word) != 0) {
                return false;
            }
            on.snow(word);
            if (on.roofs()) {
                return false;
            }
        }
        return true;
    }

    int cleared(int v) {
        if (out(v, 0, 999)) {
            return OUTSIDE;
        }
        World on = w.copy();
        int count = 0;
        for (int g = 0; g < w.n; g++) {
            while (on.deep.get(g) > v) {
                on.snow("" + (char) ('a' + g) + (g == 0 ? 'B' : 'A') + "+");
                count++;
            }
        }
        return count;
    }

    int salted(int v) {
        if (out(v, 0, 999)) {
            return OUTSIDE;
        }
        ArrayDeque<World> queue = new ArrayDeque<>();
        Map<List<Integer>, Integer> steps = new HashMap<>();
        queue.add(w.copy());
        steps.put(w.deep, 0);
        while (!queue.isEmpty()) {
            World at = queue.remove();
            int step = steps.get(at.deep);
            boolean fine = true;
            for (int d : at.deep) {
                fine &= d <= v;
            }
            if (fine) {
                return step;
            }
            for (int g = 0; g < w.n && step < 5; g++) {
                String word = (char) ('a' + g) + "*";
                if (at.why(word) == 0) {
                    World to = at.copy();
                    to.snow(word);
                    if (steps.putIfAbsent(to.deep, step + 1) == null) {
                        queue.add(to);
                    }
                }
            }
        }
        return NONE;
    }

    int slide(int g, int v, int what) {
        if (un(g)) {
            return UNKNOWN;
        }
        if (out(v, 1, 999) || out(what, 0, 1)) {
            return OUTSIDE;
        }
        if (w.deep.get(g) < v) {
            return STATE;
        }
        int much = 0;
        int at = g;
        do {
            much += w.deep.get(at);
            at++;
        } while (at < w.n && w.deep.get(at) >= v);
        if (what == 1) {
            return much;
        }
        return at == w.n ? NONE : at;
    }

    int holds(int g) {
        if (un(g)) {
            return UNKNOWN;
        }
        if (w.deep.get(g) == 0) {
            return STATE;
        }
        for (int v = 1; v <= 999; v++) {
            if (slide(g, v, 0) >= 0) {
                return v;
            }
        }
        return NONE;
    }

    int seen(int g, int deep) {
        if (un(g)) {
            return UNKNOWN;
        }
        if (out(deep, 0, 999)) {
            return OUTSIDE;
        }
        if (w.sights.size() == 8) {
            return FULL;
        }
        w.sights.add(new int[] {g, deep});
        return w.sights.size();
    }

    int forget() {
        int were = w.sights.size();
        w.sights.clear();
        return were;
    }

    /** All rows that fit: the morning of each, and behind it the bits of where was talked. */
    List<int[]> rows(int m) {
        List<int[]> fit = new ArrayList<>();
        int all = (int) Math.round(Math.pow(2 * w.n, m));
        for (int code = 0; code < all; code++) {
            World on = w.copy();
            int bits = 0;
            int left = code;
            for (int k = 0; k < m; k++) {
                int g = left % w.n;
                left /= w.n;
                int kind = left % 2;
                left /= 2;
                on.deep.set(g, on.deep.get(g) + (kind == 0 ? w.t : w.l));
                bits |= 1 << g;
            }
            on.snow(".");
            if (on.sightsHold()) {
                int[] row = new int[w.n + 1];
                for (int g = 0; g < w.n; g++) {
                    row[g] = on.deep.get(g);
                }
                row[w.n] = bits;
                fit.add(row);
            }
        }
        return fit;
    }

    int who(int m, int what) {
        if (out(m, 0, 3) || out(what, 0, 2)) {
            return OUTSIDE;
        }
        List<int[]> rows = rows(m);
        int some = 0;
        int all = rows.isEmpty() ? 0 : -1;
        for (int[] row : rows) {
            some |= row[w.n];
            all &= row[w.n];
        }
        return new int[] {rows.size(), some, all}[what];
    }

    int next(int m, int what) {
        if (out(m, 0, 3) || out(what, 0, 1)) {
            return OUTSIDE;
        }
        List<int[]> rows = rows(m);
        int best = NONE;
        int fewest = Integer.MAX_VALUE;
        for (int g = 0; g < w.n && !rows.isEmpty(); g++) {
            if (w.isSeen(g)) {
                continue;
            }
            Map<Integer, Integer> heaps = new HashMap<>();
            int most = 0;
            for (int[] row : rows) {
                most = Math.max(most, heaps.merge(row[g], 1, Integer::sum));
            }
            if (most < fewest) {
                fewest = most;
                best = g;
            }
        }
        return best == NONE ? NONE : what == 0 ? best : fewest;
    }

    int laws(int i) {
        if (fault() != NONE) {
            return NO;
        }
        List<Integer> laws = new ArrayList<>();
        for (int code = 0; code <= 555; code++) {
            if (code / 10 % 10 > 5 || code % 10 > 5) {
                continue;
            }
            World on = new World();
            on.asAtFirst(w.n);
            on.sights = w.sights;
            on.t = code / 100;
            on.l = code / 10 % 10;
            on.again = code % 10;
            on.shovel = w.shovel;
            for (String word : talk()) {
                on.snow(word);
            }
            if (on.sightsHold()) {
                laws.add(code);
            }
        }
        if (i == -1) {
            return laws.size();
        }
        return i >= 0 && i < laws.size() ? laws.get(i) : NONE;
    }

    /** Every outcome of the evenings, one by one: the chance that a roof that bears so much holds. */
    BigInteger chance(int g, int t, int m, int bears) {
        BigInteger sum = BigInteger.ZERO;
        for (int came = 0; came < 1 << m; came++) {
            int count = Integer.bitCount(came);
            if (w.deep.get(g) + count * w.l <= bears) {
                sum = sum.add(BigInteger.valueOf(t).pow(count).multiply(BigInteger.valueOf(10 - t).pow(m - count)));
            }
        }
        return sum;
    }

    long guests(int g, int t, int m, int part) {
        if (un(g)) {
            return LOST + UNKNOWN;
        }
        if (out(t, 0, 10) || out(m, 0, 12) || out(part, 0, 1)) {
            return LOST + OUTSIDE;
        }
        BigInteger upper = w.fallen.contains(g) ? BigInteger.ZERO : chance(g, t, m, w.roof.get(g));
        BigInteger lower = BigInteger.TEN.pow(m);
        BigInteger common = upper.gcd(lower);
        return (part == 0 ? upper : lower).divide(common).longValueExact();
    }

    int build(int g, int t, int m, int a, int b) {
        if (un(g)) {
            return UNKNOWN;
        }
        if (out(t, 0, 10) || out(m, 0, 12) || out(b, 1, 100) || out(a, 0, b)) {
            return OUTSIDE;
        }
        BigInteger asked = BigInteger.TEN.pow(m).multiply(BigInteger.valueOf(a));
        Map<Integer, BigInteger> chances = new HashMap<>();
        for (int bears = 0; bears <= 999; bears++) {
            // The chance changes only where a whole number of lies comes in.
            int key = bears < w.deep.get(g) ? -1 : w.l == 0 ? 0 : Math.min(m, (bears - w.deep.get(g)) / w.l);
            if (!chances.containsKey(key)) {
                chances.put(key, chance(g, t, m, bears));
            }
            if (chances.get(key).multiply(BigInteger.valueOf(b)).compareTo(asked) >= 0) {
                return bears;
            }
        }
        return NONE;
    }

    int elsewhere(int garden) {
        if (garden != -1 && un(garden)) {
            return UNKNOWN;
        }
        int[] at = new int[w.n];
        for (int i = 0; i < w.n; i++) {
            at[i] = i == w.n - 1 ? i - 1 : i + 1;
        }
        int rounds = 0;
        int[] before;
        do {
            before = at.clone();
            for (int i = 0; i < w.n; i++) {
                int[] others = new int[w.n];
                for (int k = 0; k < w.n; k++) {
                    others[at[k]] += k == i ? 0 : 1;
                }
                int to = at[i];
                for (int g = w.n - 1; g >= 0; g--) {
                    if (g != i && others[g] < others[at[i]] && others[g] <= others[to]) {
                        to = g;
                    }
                }
                at[i] = to;
            }
            rounds++;
        } while (!Arrays.equals(at, before) && rounds < 50);
        if (garden == -1) {
            return Arrays.equals(at, before) ? rounds : NONE;
        }
        int count = 0;
        for (int a : at) {
            count += a == garden ? 1 : 0;
        }
        return count;
    }

    int winter(int seed, int m, int what) {
        if (out(seed, 0, 9999) || out(m, 1, 99) || out(what, 0, 2)) {
            return OUTSIDE;
        }
        World on = w.copy();
        long x = seed;
        String kinds = ".w+ttlll";
        for (int i = 0; i < m; i++) {
            x = (75 * x + 74) % 65537;
            char kind = kinds.charAt((int) (x % 8));
            String word = "" + kind;
            if (kind != '.' && kind != 'w') {
                word = "" + (char) ('a' + x / 8 % w.n) + (char) ('A' + x / 64 % w.n) + kind;
            }
            if (on.why(word) == 0) {
                on.snow(word);
                on.roofs();
            }
        }
        int bits = 0;
        for (int g : on.fallen) {
            bits |= 1 << g;
        }
        return new int[] {on.together(), bits, on.brook}[what];
    }

    int image(int n) {
        if (out(n, 0, 1)) {
            return OUTSIDE;
        }
        images[n] = w.copy();
        return 1;
    }

    int restore(int n) {
        if (out(n, 0, 1)) {
            return OUTSIDE;
        }
        if (images[n] == null) {
            return STATE;
        }
        w = images[n].copy();
        return 1;
    }

    int told(int what) {
        if (what >= 10 && what < 10 + w.n) {
            return w.roof.get(what - 10);
        }
        if (out(what, 0, 7)) {
            return OUTSIDE;
        }
        return new int[] {pad.length(), w.n, w.brook, w.t, w.l, w.again, w.shovel, w.sights.size()}[what];
    }
}
