import java.util.Arrays;

/**
 * Gardens down a street, snowed in by what is said in them of others. The
 * document ../shared/DOC.md says what each call answers; words in capitals in
 * the comments here are its words.
 */
public final class SnowTalk {
    public static final int NONE = -6, UNKNOWN = -1, OUTSIDE = -2, STATE = -3, FULL = -4, NO = -5;
    public static final long LOST = -1000000000000000000L;

    private static final int MOST_GARDENS = 8;
    private static final int MOST_DEEP = 999;
    private static final int MOST_SIGNS = 60;
    private static final int MOST_SIGHTS = 8;
    private static final int MOST_PLACED = 4;
    private static final int MOST_SPREADS = 5;
    private static final int MOST_SAID_TODAY = 3;
    private static final int MOST_ROUNDS = 50;
    private static final int MOST_EVENINGS = 12;
    private static final int MOST_LAW = 5;
    private static final int IMAGES = 2;

    // The kinds of WORDS. The first two are also the places of their FLAKES among a street's rules.
    private static final int TRUE_WORD = 0, LIE_WORD = 1, GOOD_WORD = 2, SALT_WORD = 3, NIGHT = 4, THAW = 5;
    // The other places among a street's rules.
    private static final int AGAIN = 2, SHOVEL = 3;

    private final Street now;
    // What is only tried is tried here, so that nothing is DONE in fact.
    private final Street trial;
    // None stands where nothing was kept.
    private final Street[] images;
    private final Talk talk;
    private final Places places;
    private final Salt salt;
    private final Rows rows;
    private final Lies lies;

    public SnowTalk() {
        now = new Street();
        trial = new Street();
        images = new Street[IMAGES];
        talk = new Talk();
        places = new Places();
        salt = new Salt();
        rows = new Rows();
        lies = new Lies();
    }

    // ---- 1 gardens, talks

    public int gardens(int n) {
        if (n < 2 || n > MOST_GARDENS) {
            return OUTSIDE;
        }
        int was = now.count;
        now.begin(n);
        return was;
    }

    public int garden(int garden, int what, int v) {
        if (!now.has(garden)) {
            return UNKNOWN;
        }
        if (isOutside(what, 0, 1) || isOutside(v, 0, MOST_DEEP)) {
            return OUTSIDE;
        }
        int was;
        if (what == 0) {
            was = now.deep[garden];
            now.deep[garden] = v;
        } else {
            was = now.roof[garden];
            now.roof[garden] = v;
            now.fallen &= ~(1 << garden);
        }
        return was;
    }

    public int set(int which, int v) {
        if (isOutside(which, TRUE_WORD, SHOVEL) || isOutside(v, which == SHOVEL ? 1 : 0, 9)) {
            return OUTSIDE;
        }
        int was = now.rule[which];
        now.rule[which] = v;
        return was;
    }

    public int say(int sign) {
        if (isOutside(sign, 33, 126)) {
            return OUTSIDE;
        }
        if (talk.length >= MOST_SIGNS) {
            return FULL;
        }
        talk.signs[talk.length] = sign;
        talk.length++;
        return talk.length;
    }

    public int wipe() {
        int were = talk.length;
        talk.length = 0;
        return were;
    }

    public int fault() {
        return talk.read(now.count);
    }

    // ---- 2 talks

    public int judge(int what) {
        if (isOutside(what, 0, 1)) {
            return OUTSIDE;
        }
        if (talk.read(now.count) != NONE) {
            return NO;
        }
        trial.copy(now);
        int word = talk.holdOn(trial);
        return what == 0 ? word : talk.why;
    }

    public int done() {
        if (!talkCanBe()) {
            return NO;
        }
        now.copy(trial);
        talk.length = 0;
        return talk.words;
    }

    public int state(int garden, int what) {
        if (!now.has(garden)) {
            return UNKNOWN;
        }
        if (isOutside(what, 0, 1)) {
            return OUTSIDE;
        }
        return now.look(garden, what);
    }

    public int behind(int garden, int what) {
        if (!now.has(garden)) {
            return UNKNOWN;
        }
        if (isOutside(what, 0, 1)) {
            return OUTSIDE;
        }
        if (!talkCanBe()) {
            return NO;
        }
        return trial.look(garden, what);
    }

    public int first() {
        if (!talkCanBe()) {
            return NO;
        }
        return talk.firstFall;
    }

    public int recognised(int garden) {
        if (!now.has(garden)) {
            return UNKNOWN;
        }
        return now.mostSaidOf(garden);
    }

    // ---- 3 where, clearing, slides

    public int where(int i) {
        if (talk.read(now.count) != NONE || !talk.isOfOthersOnly()) {
            return NO;
        }
        if (talk.words > MOST_PLACED) {
            return FULL;
        }
        trial.copy(now);
        places.find(trial, talk);
        if (i == -1) {
            return places.fewest;
        }
        return i >= 0 && i < talk.words ? places.best[i] : NONE;
    }

    public int cleared(int v) {
        if (isOutside(v, 0, MOST_DEEP)) {
            return OUTSIDE;
        }
        int shovel = now.rule[SHOVEL];
        if (shovel < 1) {
            return NONE;
        }
        int words = 0;
        for (int g = 0; g < now.count && g < MOST_GARDENS; g++) {
            int tooDeep = Math.max(0, now.deep[g] - v);
            words += (tooDeep + shovel - 1) / shovel;
        }
        return words;
    }

    public int salted(int v) {
        if (isOutside(v, 0, MOST_DEEP)) {
            return OUTSIDE;
        }
        return salt.fewestFor(now, v);
    }

    public int slide(int garden, int v, int what) {
        if (!now.has(garden)) {
            return UNKNOWN;
        }
        if (isOutside(v, 1, MOST_DEEP) || isOutside(what, 0, 1)) {
            return OUTSIDE;
        }
        if (now.deep[garden] < v) {
            return STATE;
        }
        int comes = now.deep[garden];
        int at = garden + 1;
        for (; at < now.count && at < MOST_GARDENS && now.deep[at] >= v; at++) {
            comes += now.deep[at];
        }
        if (what == 1) {
            return comes;
        }
        return now.has(at) ? at : NONE;
    }

    public int holds(int garden) {
        if (!now.has(garden)) {
            return UNKNOWN;
        }
        if (now.deep[garden] == 0) {
            return STATE;
        }
        // A slide stops in the first garden below that is less deep than v, so the shallowest one decides.
        int least = MOST_DEEP + 1;
        for (int g = garden + 1; g < now.count && g < MOST_GARDENS; g++) {
            least = Math.min(least, now.deep[g] + 1);
        }
        return least <= now.deep[garden] ? least : NONE;
    }

    // ---- 4 who, laws, guests

    public int seen(int garden, int deep) {
        if (!now.has(garden)) {
            return UNKNOWN;
        }
        if (isOutside(deep, 0, MOST_DEEP)) {
            return OUTSIDE;
        }
        if (now.sights >= MOST_SIGHTS) {
            return FULL;
        }
        now.sightGarden[now.sights] = garden;
        now.sightDeep[now.sights] = deep;
        now.sights++;
        return now.sights;
    }

    public int forget() {
        int were = now.sights;
        now.sights = 0;
        return were;
    }

    public int who(int m, int what) {
        if (isOutside(m, 0, MOST_SAID_TODAY) || isOutside(what, 0, 2)) {
            return OUTSIDE;
        }
        rows.gather(now, m);
        if (what == 0) {
            return rows.fit;
        }
        return what == 1 ? rows.inSome : rows.inAll;
    }

    public int next(int m, int what) {
        if (isOutside(m, 0, MOST_SAID_TODAY) || isOutside(what, 0, 1)) {
            return OUTSIDE;
        }
        rows.gather(now, m);
        int garden = rows.gardenToMeasure(now);
        return what == 0 || garden == NONE ? garden : rows.mostLeft(garden);
    }

    public int laws(int i) {
        if (talk.read(now.count) != NONE) {
            return NO;
        }
        trial.copy(now);
        int found = 0;
        for (int t = 0; t <= MOST_LAW; t++) {
            for (int l = 0; l <= MOST_LAW; l++) {
                for (int again = 0; again <= MOST_LAW; again++) {
                    if (talk.fitsLaw(trial, t, l, again)) {
                        if (found == i) {
                            return 100 * t + 10 * l + again;
                        }
                        found++;
                    }
                }
            }
        }
        return i == -1 ? found : NONE;
    }

    public long guests(int garden, int t, int m, int part) {
        if (!now.has(garden)) {
            return LOST + UNKNOWN;
        }
        if (isOutside(t, 0, 10) || isOutside(m, 0, MOST_EVENINGS) || isOutside(part, 0, 1)) {
            return LOST + OUTSIDE;
        }
        long upper = 0;
        for (int lieCount = 0; lieCount <= m; lieCount++) {
            if (now.bears(garden, lieCount)) {
                upper += chanceOf(lieCount, t, m);
            }
        }
        long lower = power(10, m);
        long common = commonDivisor(upper, lower);
        if (common < 1) {
            return LOST + OUTSIDE;
        }
        return (part == 0 ? upper : lower) / common;
    }

    public int build(int garden, int t, int m, int a, int b) {
        if (!now.has(garden)) {
            return UNKNOWN;
        }
        if (isOutside(t, 0, 10) || isOutside(m, 0, MOST_EVENINGS) || isOutside(b, 1, 100) || isOutside(a, 0, b)) {
            return OUTSIDE;
        }
        if (a == 0) {
            return 0;
        }
        long asked = a * power(10, m);
        long upper = 0;
        for (int lieCount = 0; lieCount <= m; lieCount++) {
            upper += chanceOf(lieCount, t, m);
            if (upper * b >= asked) {
                int bears = now.deep[garden] + lieCount * now.rule[LIE_WORD];
                return bears <= MOST_DEEP ? bears : NONE;
            }
        }
        return NONE;
    }

    public int elsewhere(int garden) {
        if (garden != -1 && !now.has(garden)) {
            return UNKNOWN;
        }
        int rounds = lies.settle(now.count);
        return garden == -1 ? rounds : lies.liesIn[garden];
    }

    public int winter(int seed, int m, int what) {
        if (isOutside(seed, 0, 9999) || isOutside(m, 1, 99) || isOutside(what, 0, 2)) {
            return OUTSIDE;
        }
        trial.copy(now);
        int x = seed;
        for (int i = 0; i < m; i++) {
            x = (75 * x + 74) % 65537;
            trial.draw(x);
        }
        if (what == 0) {
            return trial.deepTogether();
        }
        return what == 1 ? trial.fallen : trial.brook;
    }

    public int image(int n) {
        if (isOutside(n, 0, IMAGES - 1)) {
            return OUTSIDE;
        }
        if (images[n] == null) {
            images[n] = new Street();
        }
        images[n].copy(now);
        return 1;
    }

    public int restore(int n) {
        if (isOutside(n, 0, IMAGES - 1)) {
            return OUTSIDE;
        }
        if (images[n] == null) {
            return STATE;
        }
        now.copy(images[n]);
        return 1;
    }

    public int told(int what) {
        if (now.has(what - 10)) {
            return now.roof[what - 10];
        }
        switch (what) {
            case 0:
                return talk.length;
            case 1:
                return now.count;
            case 2:
                return now.brook;
            case 3:
            case 4:
            case 5:
            case 6:
                return now.rule[what - 3];
            case 7:
                return now.sights;
            default:
                return OUTSIDE;
        }
    }

    // ---- what several calls share

    private static boolean isOutside(int v, int least, int most) {
        return v < least || v > most;
    }

    /** Leaves in the trial how all would be behind the TALK. */
    private boolean talkCanBe() {
        if (talk.read(now.count) != NONE) {
            return false;
        }
        trial.copy(now);
        return talk.holdOn(trial) == NONE;
    }

    /** A night on these depths, all at once: what a garden gives is told by how deep all were before. */
    private static void passNight(int[] deep, int count) {
        int comes = 0;
        for (int g = 0; g < count && g < deep.length; g++) {
            boolean hasBelow = g + 1 < count && g + 1 < deep.length;
            int gives = hasBelow && deep[g] >= deep[g + 1] + 2 ? 1 : 0;
            deep[g] += comes - gives;
            comes = gives;
        }
    }

    /** The chance of just so many LIES in m evenings, in parts of 10 to the m. */
    private static long chanceOf(int lieCount, int t, int m) {
        long ways = 1;
        for (int k = 1; k <= lieCount; k++) {
            ways = ways * (m - k + 1) / k;
        }
        return ways * power(t, lieCount) * power(10 - t, m - lieCount);
    }

    private static long power(int base, int exponent) {
        long product = 1;
        for (int i = 0; i < exponent; i++) {
            product *= base;
        }
        return product;
    }

    private static long commonDivisor(long a, long b) {
        long larger = a;
        long smaller = b;
        // Euclid's steps on numbers up to 10 to the 12th are fewer than 64.
        for (int step = 0; step < 100 && smaller != 0; step++) {
            long left = larger % smaller;
            larger = smaller;
            smaller = left;
        }
        return larger;
    }

    /** All that an IMAGE keeps: the gardens, the numbers that are set, what was said, the SIGHTS. */
    private static final class Street {
        int count;
        final int[] deep;
        final int[] roof;
        int fallen;
        int brook;
        // TRUE, LIE, AGAIN, SHOVEL
        final int[] rule;
        // For each garden the neighbours of whom a word was said there this winter, as bits: a word of no flakes, too.
        final int[] said;
        // For each garden and neighbour the flakes since the last thaw.
        final int[] flakes;
        int sights;
        final int[] sightGarden;
        final int[] sightDeep;

        Street() {
            deep = new int[MOST_GARDENS];
            roof = new int[MOST_GARDENS];
            rule = new int[4];
            said = new int[MOST_GARDENS];
            flakes = new int[MOST_GARDENS * MOST_GARDENS];
            sightGarden = new int[MOST_SIGHTS];
            sightDeep = new int[MOST_SIGHTS];
            rule[TRUE_WORD] = 1;
            rule[LIE_WORD] = 3;
            rule[AGAIN] = 1;
            rule[SHOVEL] = 4;
            begin(6);
        }

        void begin(int n) {
            count = n;
            Arrays.fill(roof, 20);
            fallen = 0;
            brook = 0;
            sights = 0;
            clearSnow();
        }

        /** No snow at all, nothing said. */
        void clearSnow() {
            Arrays.fill(deep, 0);
            forgetWords();
        }

        /** LAWS thaw often: gardens in which nothing was said have nothing to forget. */
        void forgetWords() {
            for (int g = 0; g < MOST_GARDENS; g++) {
                if (said[g] != 0) {
                    said[g] = 0;
                    Arrays.fill(flakes, g * MOST_GARDENS, (g + 1) * MOST_GARDENS, 0);
                }
            }
        }

        void copy(Street from) {
            if (from == null) {
                return;
            }
            count = from.count;
            System.arraycopy(from.deep, 0, deep, 0, deep.length);
            System.arraycopy(from.roof, 0, roof, 0, roof.length);
            fallen = from.fallen;
            brook = from.brook;
            System.arraycopy(from.rule, 0, rule, 0, rule.length);
            System.arraycopy(from.said, 0, said, 0, said.length);
            System.arraycopy(from.flakes, 0, flakes, 0, flakes.length);
            sights = from.sights;
            System.arraycopy(from.sightGarden, 0, sightGarden, 0, sightGarden.length);
            System.arraycopy(from.sightDeep, 0, sightDeep, 0, sightDeep.length);
        }

        boolean has(int g) {
            return g >= 0 && g < count && g < MOST_GARDENS;
        }

        int look(int g, int what) {
            if (!has(g)) {
                return UNKNOWN;
            }
            return what == 0 ? deep[g] : fallen >> g & 1;
        }

        boolean isDeep(int g) {
            return has(g) && deep[g] > 0;
        }

        /** How much deeper it gets by such a word, AGAIN among it. */
        int weight(int kind, int g, int whom) {
            if (g < 0 || g >= MOST_GARDENS || kind != TRUE_WORD && kind != LIE_WORD) {
                return 0;
            }
            return rule[kind] + ((said[g] >> whom & 1) == 1 ? rule[AGAIN] : 0);
        }

        /** Why this word can not be; 0 if it can. */
        int hindrance(int kind, int g, int whom) {
            if (!has(g) || kind == NIGHT || kind == THAW) {
                return 0;
            }
            if (kind == SALT_WORD) {
                return isDeep(g) || isDeep(g - 1) || isDeep(g + 1) ? 0 : 2;
            }
            if (g == whom) {
                return 1;
            }
            if (kind == GOOD_WORD) {
                return isDeep(g) ? 0 : 2;
            }
            return deep[g] + weight(kind, g, whom) > MOST_DEEP ? 3 : 0;
        }

        /** What a word does to the snow, roofs apart, also if it can not be: LAWS ask for that. */
        void speak(int kind, int g, int whom) {
            switch (kind) {
                case TRUE_WORD:
                case LIE_WORD:
                    fall(kind, g, whom);
                    break;
                case GOOD_WORD:
                    lower(g, rule[SHOVEL]);
                    break;
                case SALT_WORD:
                    lower(g, 2);
                    lower(g - 1, 1);
                    lower(g + 1, 1);
                    break;
                case NIGHT:
                    passNight(deep, count);
                    break;
                case THAW:
                    thaw();
                    forgetWords();
                    break;
                default:
                    break;
            }
        }

        private void fall(int kind, int g, int whom) {
            if (!has(g) || !has(whom)) {
                return;
            }
            int more = weight(kind, g, whom);
            deep[g] += more;
            flakes[g * MOST_GARDENS + whom] += more;
            said[g] |= 1 << whom;
        }

        private void lower(int g, int by) {
            if (has(g)) {
                deep[g] = Math.max(0, deep[g] - by);
            }
        }

        private void thaw() {
            for (int g = 0; g < count && g < MOST_GARDENS; g++) {
                int less = Math.min(3, deep[g]);
                deep[g] -= less;
                brook += less;
            }
        }

        /** The roofs, as bits, that have not fallen and bear less than lies on them. */
        int overloaded() {
            int bits = 0;
            for (int g = 0; g < count && g < MOST_GARDENS; g++) {
                if (deep[g] > roof[g]) {
                    bits |= 1 << g;
                }
            }
            return bits & ~fallen;
        }

        /** Does a word, if it can be, with what roofs do behind it; answers why it can not be, or 0. */
        int tell(int kind, int g, int whom) {
            int why = hindrance(kind, g, whom);
            if (why == 0) {
                speak(kind, g, whom);
                fallen |= overloaded();
            }
            return why;
        }

        /** Says a word, if it can be: whether it can, and no roof falls behind it. */
        boolean bearsWord(int kind, int g, int whom) {
            if (hindrance(kind, g, whom) != 0) {
                return false;
            }
            speak(kind, g, whom);
            return overloaded() == 0;
        }

        int mostSaidOf(int g) {
            if (!has(g)) {
                return NONE;
            }
            int most = 0;
            int whom = NONE;
            for (int i = 0; i < count && i < MOST_GARDENS; i++) {
                if (flakes[g * MOST_GARDENS + i] > most) {
                    most = flakes[g * MOST_GARDENS + i];
                    whom = i;
                }
            }
            return whom;
        }

        boolean bears(int g, int lieCount) {
            return has(g) && (fallen >> g & 1) == 0 && deep[g] + lieCount * rule[LIE_WORD] <= roof[g];
        }

        boolean isSeen(int g) {
            for (int i = 0; i < sights && i < MOST_SIGHTS; i++) {
                if (sightGarden[i] == g) {
                    return true;
                }
            }
            return false;
        }

        boolean sightsHold(int[] depths) {
            for (int i = 0; i < sights && i < MOST_SIGHTS; i++) {
                int g = sightGarden[i];
                if (g < 0 || g >= depths.length || depths[g] != sightDeep[i]) {
                    return false;
                }
            }
            return true;
        }

        /** One word of A WINTER, if it can be. */
        void draw(int x) {
            if (count < 1) {
                return;
            }
            int g = x / 8 % count;
            int whom = x / 64 % count;
            switch (x % 8) {
                case 0:
                    tell(NIGHT, 0, 0);
                    break;
                case 1:
                    tell(THAW, 0, 0);
                    break;
                case 2:
                    tell(GOOD_WORD, g, whom);
                    break;
                case 3:
                case 4:
                    tell(TRUE_WORD, g, whom);
                    break;
                default:
                    tell(LIE_WORD, g, whom);
                    break;
            }
        }

        int deepTogether() {
            int sum = 0;
            for (int g = 0; g < count && g < MOST_GARDENS; g++) {
                sum += deep[g];
            }
            return sum;
        }
    }

    /** The PAD, and the WORDS that were read from it last. */
    private static final class Talk {
        final int[] signs;
        int length;
        int words;
        final int[] kind;
        final int[] place;
        final int[] whom;
        // Of the last run: why its first word that can not be can not; the first word behind which a roof fell.
        int why;
        int firstFall;

        Talk() {
            signs = new int[MOST_SIGNS];
            kind = new int[MOST_SIGNS];
            place = new int[MOST_SIGNS];
            whom = new int[MOST_SIGNS];
            length = 0;
            words = 0;
            why = NONE;
            firstFall = NONE;
        }

        /** Reads the signs as WORDS among so many gardens; answers THE FAULT, or NONE. */
        int read(int count) {
            words = 0;
            int at = 0;
            for (int word = 0; word < MOST_SIGNS && at < length; word++) {
                int read = readWord(at, count);
                if (read < 1) {
                    return -read;
                }
                at += read;
            }
            return NONE;
        }

        /** Answers how many signs the word has, or, 0 or less, the place of its fault with a minus. */
        private int readWord(int at, int count) {
            int sign = signAt(at);
            if (sign == '.' || sign == 'w') {
                return addWord(sign == 'w' ? THAW : NIGHT, 0, 0, 1);
            }
            int g = sign - 'a';
            if (g < 0 || g >= count) {
                return -at;
            }
            int second = signAt(at + 1);
            if (second == '*') {
                return addWord(SALT_WORD, g, 0, 2);
            }
            int of = second - 'A';
            if (of < 0 || of >= count) {
                return -(at + 1);
            }
            int said = kindOf(signAt(at + 2));
            return said == NONE ? -(at + 2) : addWord(said, g, of, 3);
        }

        /** Behind the last sign there is 0, which can stand nowhere: so the fault is there if more must come. */
        private int signAt(int at) {
            return at >= 0 && at < length && at < MOST_SIGNS ? signs[at] : 0;
        }

        private int addWord(int which, int g, int of, int signsOfIt) {
            if (words < MOST_SIGNS) {
                kind[words] = which;
                place[words] = g;
                whom[words] = of;
                words++;
            }
            return signsOfIt;
        }

        private static int kindOf(int sign) {
            switch (sign) {
                case 't':
                    return TRUE_WORD;
                case 'l':
                    return LIE_WORD;
                case '+':
                    return GOOD_WORD;
                default:
                    return NONE;
            }
        }

        /** Does the words read, up to the first that can not be: that one, or NONE. */
        int holdOn(Street street) {
            why = NONE;
            firstFall = NONE;
            for (int i = 0; i < words && i < MOST_SIGNS; i++) {
                int before = street.fallen;
                int hindered = street.tell(kind[i], place[i], whom[i]);
                if (hindered != 0) {
                    why = hindered;
                    return i;
                }
                if (firstFall == NONE && street.fallen != before) {
                    firstFall = i;
                }
            }
            return NONE;
        }

        /** Whether all words read are t or l and of somebody else than the garden's own. */
        boolean isOfOthersOnly() {
            for (int i = 0; i < words && i < MOST_SIGNS; i++) {
                if (isOutside(kind[i], TRUE_WORD, LIE_WORD) || place[i] == whom[i]) {
                    return false;
                }
            }
            return true;
        }

        /** Whether the words read, by these FLAKES, from no snow, leave what the street's SIGHTS tell. */
        boolean fitsLaw(Street street, int t, int l, int again) {
            street.clearSnow();
            street.rule[TRUE_WORD] = t;
            street.rule[LIE_WORD] = l;
            street.rule[AGAIN] = again;
            for (int i = 0; i < words && i < MOST_SIGNS; i++) {
                street.speak(kind[i], place[i], whom[i]);
            }
            return street.sightsHold(street.deep);
        }
    }

    /** WHERE to talk: all places for the words, the least first. */
    private static final class Places {
        final int[] tried;
        final int[] best;
        int fewest;

        Places() {
            tried = new int[MOST_PLACED];
            best = new int[MOST_PLACED];
            fewest = 0;
        }

        /** Fills best and fewest. The street must be a copy: its flakes are not put back. */
        void find(Street street, Talk talk) {
            if (street == null || talk == null || talk.words > MOST_PLACED) {
                return;
            }
            fewest = talk.words + 1;
            placeFrom(this, street, talk, 0, 0);
        }

        /**
         * The gardens rise and unsaid comes last, so the first row found with
         * so few unsaid is the least of them.
         */
        private static void placeFrom(Places p, Street street, Talk talk, int i, int unsaid) {
            if (unsaid >= p.fewest) {
                return;
            }
            if (i < 0 || i >= talk.words || i >= MOST_PLACED) {
                p.keep(unsaid);
                return;
            }
            for (int g = 0; g < street.count && g < MOST_GARDENS; g++) {
                int deepBefore = street.deep[g];
                int saidBefore = street.said[g];
                if (street.bearsWord(talk.kind[i], g, talk.whom[i])) {
                    p.tried[i] = g;
                    placeFrom(p, street, talk, i + 1, unsaid);
                }
                street.deep[g] = deepBefore;
                street.said[g] = saidBefore;
            }
            p.tried[i] = NONE;
            placeFrom(p, street, talk, i + 1, unsaid + 1);
        }

        private void keep(int unsaid) {
            fewest = unsaid;
            System.arraycopy(tried, 0, best, 0, MOST_PLACED);
        }
    }

    /**
     * SALTED. Spreads may come in any order, and one that can not be would
     * have helped nothing: so only how many there are in each garden counts.
     */
    private static final class Salt {
        final int[] tooDeep;
        final int[] spreads;
        int count;
        int fewest;

        Salt() {
            tooDeep = new int[MOST_GARDENS];
            spreads = new int[MOST_GARDENS];
            count = 0;
            fewest = 0;
        }

        int fewestFor(Street street, int v) {
            if (street == null) {
                return NONE;
            }
            count = street.count;
            for (int g = 0; g < count && g < MOST_GARDENS; g++) {
                tooDeep[g] = street.deep[g] - v;
                spreads[g] = 0;
            }
            fewest = MOST_SPREADS + 1;
            spreadFrom(this, 0, 0);
            return fewest <= MOST_SPREADS ? fewest : NONE;
        }

        private static void spreadFrom(Salt s, int g, int spent) {
            if (g < 0 || g >= s.count || g >= MOST_GARDENS) {
                if (s.isEnough(g - 1)) {
                    s.fewest = spent;
                }
                return;
            }
            for (int here = 0; here <= MOST_SPREADS && spent + here < s.fewest; here++) {
                s.spreads[g] = here;
                // What comes further down does not reach the garden above this one any more.
                if (s.isEnough(g - 1)) {
                    spreadFrom(s, g + 1, spent + here);
                }
            }
            s.spreads[g] = 0;
        }

        private boolean isEnough(int g) {
            return g < 0 || g >= MOST_GARDENS
                    || tooDeep[g] <= 2 * spreadsIn(g) + spreadsIn(g - 1) + spreadsIn(g + 1);
        }

        private int spreadsIn(int g) {
            return g >= 0 && g < count && g < MOST_GARDENS ? spreads[g] : 0;
        }
    }

    /**
     * WHO. Rows of the same words in another order leave the same morning:
     * each such heap of words is looked at once, and counts for all its rows.
     */
    private static final class Rows {
        // Room for what three words of 9 flakes and a night can change: from 1 less to 28 more.
        private static final int CHANGES = 32;

        final int[] picks;
        final int[] day;
        final int[] morning;
        // For each garden and change of its depth, how many of the rows that fit leave it so.
        final int[] tally;
        int said;
        int fit;
        int inSome;
        int inAll;

        Rows() {
            picks = new int[MOST_SAID_TODAY];
            day = new int[MOST_GARDENS];
            morning = new int[MOST_GARDENS];
            tally = new int[MOST_GARDENS * CHANGES];
            said = 0;
            fit = 0;
            inSome = 0;
            inAll = 0;
        }

        void gather(Street street, int m) {
            if (street == null || isOutside(m, 0, MOST_SAID_TODAY)) {
                return;
            }
            said = m;
            fit = 0;
            inSome = 0;
            inAll = (1 << street.count) - 1;
            Arrays.fill(tally, 0);
            System.arraycopy(street.deep, 0, day, 0, MOST_GARDENS);
            pickFrom(this, street, m, 0);
            if (fit == 0) {
                inAll = 0;
            }
        }

        /** A pick is twice its garden, and one more for a LIE. */
        private static void pickFrom(Rows r, Street street, int left, int least) {
            if (left < 1 || left > MOST_SAID_TODAY) {
                r.weigh(street);
                return;
            }
            for (int pick = Math.max(0, least); pick < 2 * street.count && pick < 2 * MOST_GARDENS; pick++) {
                int more = street.rule[(pick & 1) == 0 ? TRUE_WORD : LIE_WORD];
                r.picks[left - 1] = pick;
                r.day[pick >> 1] += more;
                pickFrom(r, street, left - 1, pick);
                r.day[pick >> 1] -= more;
            }
        }

        private void weigh(Street street) {
            System.arraycopy(day, 0, morning, 0, MOST_GARDENS);
            passNight(morning, street.count);
            if (!street.sightsHold(morning)) {
                return;
            }
            int alike = orders();
            int bits = 0;
            for (int i = 0; i < said && i < MOST_SAID_TODAY; i++) {
                bits |= 1 << (picks[i] >> 1);
            }
            fit += alike;
            inSome |= bits;
            inAll &= bits;
            for (int g = 0; g < street.count && g < MOST_GARDENS; g++) {
                int change = morning[g] - street.deep[g] + 1;
                if (change >= 0 && change < CHANGES) {
                    tally[g * CHANGES + change] += alike;
                }
            }
        }

        /** In how many orders the picks can stand; equal ones are beside each other. */
        private int orders() {
            int all = 1;
            int same = 1;
            for (int i = 1; i < said && i < MOST_SAID_TODAY; i++) {
                same = picks[i] == picks[i - 1] ? same + 1 : 1;
                all = all * (i + 1) / same;
            }
            return all;
        }

        int gardenToMeasure(Street street) {
            int best = NONE;
            if (fit == 0 || street == null) {
                return best;
            }
            for (int g = 0; g < street.count && g < MOST_GARDENS; g++) {
                if (!street.isSeen(g) && (best == NONE || mostLeft(g) < mostLeft(best))) {
                    best = g;
                }
            }
            return best;
        }

        int mostLeft(int g) {
            int most = 0;
            if (isOutside(g, 0, MOST_GARDENS - 1)) {
                return most;
            }
            for (int change = 0; change < CHANGES; change++) {
                most = Math.max(most, tally[g * CHANGES + change]);
            }
            return most;
        }
    }

    /** ELSEWHERE: where each neighbour says his lie. */
    private static final class Lies {
        final int[] saysIn;
        final int[] liesIn;

        Lies() {
            saysIn = new int[MOST_GARDENS];
            liesIn = new int[MOST_GARDENS];
        }

        /** The ROUNDS till nobody goes, or NONE; how many say theirs in each garden is in liesIn then. */
        int settle(int count) {
            Arrays.fill(liesIn, 0);
            for (int i = 0; i < count && i < MOST_GARDENS; i++) {
                saysIn[i] = i + 1 < count && i + 1 < MOST_GARDENS ? i + 1 : Math.max(0, i - 1);
                liesIn[saysIn[i]]++;
            }
            for (int round = 1; round <= MOST_ROUNDS; round++) {
                if (!somebodyGoes(count)) {
                    return round;
                }
            }
            return NONE;
        }

        private boolean somebodyGoes(int count) {
            boolean goes = false;
            for (int i = 0; i < count && i < MOST_GARDENS; i++) {
                int from = saysIn[i];
                if (isOutside(from, 0, MOST_GARDENS - 1)) {
                    return false;
                }
                liesIn[from]--;
                int to = emptiest(i, count);
                if (liesIn[to] >= liesIn[from]) {
                    to = from;
                }
                liesIn[to]++;
                saysIn[i] = to;
                goes = goes || to != from;
            }
            return goes;
        }

        /** The garden, not his own, where fewest say theirs, himself apart. */
        private int emptiest(int own, int count) {
            int best = own == 0 ? 1 : 0;
            for (int g = 0; g < count && g < MOST_GARDENS; g++) {
                if (g != own && liesIn[g] < liesIn[best]) {
                    best = g;
                }
            }
            return best;
        }
    }
}
