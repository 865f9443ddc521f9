import java.util.Arrays;

/**
 * Which change broke it: versions made one on another, tests that may lie by told odds, the stories that
 * may explain them, the best tests to come, and a told truth to play against.
 */
public final class BrokeWhere {
    public static final int NONE = -6, UNKNOWN = -1, OUTSIDE = -2, STATE = -3, FULL = -4, NO = -5;
    public static final long LOST = -1000000000000000000L;

    private static final int MOST_VERSIONS = 12, MOST_TESTS = 12, MOST_SIGNS = 40, MOST_WITHIN = 9;
    private static final int SETS = 1 << MOST_VERSIONS;
    private static final int SIZE = 0, COST = 1, NEEDS = 2, DEAF = 3;
    private static final int MISS = 0, FALSE = 1, FAITH = 2, TRUSTS = 5;
    private static final int ONE = 0, BOTH = 1, MENDED = 2, SORTS = 3;
    // ONE for each change, BOTH for each pair, MENDED for each pair twice.
    private static final int MOST_STORIES = MOST_VERSIONS + 3 * MOST_VERSIONS * (MOST_VERSIONS - 1) / 2;
    private static final int HALVES = 0, HOPE = 1;
    private static final int NO_TEXT = -1;

    // 4096 sets of changes are held as 64 words of 64 sets: a set's upper six bits choose the word.
    private static final int WORDS = 64, SETS_OF_WORD = 64, LOW_CHANGES = 6;
    private static final long[] LOW_SETS = {
        0xAAAAAAAAAAAAAAAAL, 0xCCCCCCCCCCCCCCCCL, 0xF0F0F0F0F0F0F0F0L,
        0xFF00FF00FF00FF00L, 0xFFFF0000FFFF0000L, 0xFFFFFFFF00000000L
    };

    private final History history;
    private final Log log;
    private final Stories stories;
    private final Partings fewest;
    private final Partings cheapest;
    private final Text signs;
    private final Truth verdict;
    private final Families families;

    public BrokeWhere() {
        history = new History();
        log = new Log();
        stories = new Stories(history, log);
        fewest = new Partings(history, false);
        cheapest = new Partings(history, true);
        signs = new Text();
        verdict = new Truth();
        families = new Families(history, verdict);
    }

    // ---- 1 versions, tests

    public int version(int on, int other, int size) {
        if (!history.mayStandOn(on, other)) {
            return UNKNOWN;
        }
        if (!isFrom(size, 1, 9)) {
            return OUTSIDE;
        }
        if (history.count >= MOST_VERSIONS) {
            return FULL;
        }
        forgetPartings();
        return history.add(on, other, size);
    }

    public int has(int version) {
        return history.knows(version) ? history.holds[version] : UNKNOWN;
    }

    public int set(int version, int what, int v) {
        if (!history.knows(version)) {
            return UNKNOWN;
        }
        if (!history.mayBe(version, what, v)) {
            return OUTSIDE;
        }
        if (what == DEAF && v == 1 && log.holdsTestOf(version)) {
            return STATE;
        }
        forgetPartings();
        return swap(history.row(what), version, v);
    }

    public int trust(int which, int v) {
        if (!isFrom(which, 0, TRUSTS - 1) || !isFrom(v, 0, which < FAITH ? 5 : 9)) {
            return OUTSIDE;
        }
        return swap(stories.trusts, which, v);
    }

    public int test(int version, boolean passed) {
        if (!history.knows(version)) {
            return UNKNOWN;
        }
        if (!history.hears(version)) {
            return STATE;
        }
        return log.add(version, passed);
    }

    public int tested(int test, int what) {
        if (!isFrom(test, 0, log.count - 1)) {
            return UNKNOWN;
        }
        if (!isFrom(what, 0, 1)) {
            return OUTSIDE;
        }
        return what == 0 ? log.version[test] : asNumber(log.passed[test]);
    }

    public int untest() {
        if (log.count < 1) {
            return NO;
        }
        log.count--;
        return log.count;
    }

    // ---- 2 stories

    public long weight(int sort, int change, int other) {
        int refusal = storyRefusal(sort, change, other);
        return refusal == 0 ? stories.weightOf(sort, change, other) : LOST + refusal;
    }

    public long odds(int sort, int change, int other, int part) {
        int refusal = storyRefusal(sort, change, other);
        if (refusal != 0) {
            return LOST + refusal;
        }
        if (!isFrom(part, 0, 1)) {
            return LOST + OUTSIDE;
        }
        stories.weigh();
        return fraction(stories.weightOf(sort, change, other), stories.all, part);
    }

    public long sorts(int sort, int part) {
        if (!isFrom(sort, 0, SORTS - 1) || !isFrom(part, 0, 1)) {
            return LOST + OUTSIDE;
        }
        stories.weigh();
        return fraction(stories.weightOfSort(sort), stories.all, part);
    }

    public long blame(int change, int part) {
        if (!history.knows(change)) {
            return LOST + UNKNOWN;
        }
        if (!isFrom(part, 0, 1)) {
            return LOST + OUTSIDE;
        }
        stories.weigh();
        return fraction(stories.weightBlaming(change), stories.all, part);
    }

    public int guess(int what) {
        if (!isFrom(what, 0, 2)) {
            return OUTSIDE;
        }
        stories.weigh();
        if (stories.all == 0) {
            return NO;
        }
        int story = stories.heaviest;
        int sort = sortAt(story);
        switch (what) {
            case 0:
                return sort;
            case 1:
                return firstAt(story);
            default:
                return sort == ONE ? NONE : secondAt(story);
        }
    }

    public long hope(int version, int part) {
        if (!history.hears(version)) {
            return LOST + UNKNOWN;
        }
        if (!isFrom(part, 0, 1)) {
            return LOST + OUTSIDE;
        }
        stories.weigh();
        return fraction(stories.hopeWeight(version), 10 * stories.all, part);
    }

    public int next(int how) {
        if (!isFrom(how, HALVES, HOPE)) {
            return OUTSIDE;
        }
        stories.weigh();
        return stories.nextVersion(how);
    }

    // ---- 3 without lies

    public int worst(int set, int what) {
        return parting(fewest, set, what);
    }

    public int mean(int set, int what) {
        return parting(cheapest, set, what);
    }

    public int twins(int change) {
        return history.knows(change) ? history.twinsOf(change) : UNKNOWN;
    }

    // ---- 4 the truth

    public int say(int sign) {
        if (!isFrom(sign, 33, 126)) {
            return OUTSIDE;
        }
        return signs.add(sign);
    }

    public int wipe() {
        int were = signs.length;
        signs.length = 0;
        return were;
    }

    public int fault() {
        return signs.firstFault();
    }

    public int truth() {
        if (signs.firstFault() != NONE) {
            return NO;
        }
        verdict.take(signs);
        signs.length = 0;
        return verdict.length;
    }

    public int fails(int set, int what) {
        if (!isFrom(set, 0, SETS - 1) || !isFrom(what, 0, 1)) {
            return OUTSIDE;
        }
        if (what == 1) {
            return asNumber(families.isSound(set));
        }
        if (verdict.length < 1) {
            return STATE;
        }
        return asNumber(isAmong(verdict.failing, set));
    }

    public int play(int limit) {
        if (!isFrom(limit, 1, 10)) {
            return OUTSIDE;
        }
        if (verdict.length < 1) {
            return STATE;
        }
        if (history.hearing() == 0) {
            return NO;
        }
        log.count = 0;
        for (int i = 0; i < MOST_TESTS; i++) {
            stories.weigh();
            if (!stories.guessIsBelow(limit)) {
                break;
            }
            int version = stories.nextVersion(HOPE);
            if (!history.hears(version)) {
                break;
            }
            log.add(version, !isAmong(verdict.failing, history.holds[version]));
        }
        return log.count;
    }

    public int out(int version, int what) {
        if (!history.knows(version)) {
            return UNKNOWN;
        }
        if (!isFrom(what, 0, 1)) {
            return OUTSIDE;
        }
        if (verdict.length < 1) {
            return STATE;
        }
        int best = families.leastOut(history.holds[version]);
        return best == NO || what == 0 ? best : history.sizes(best);
    }

    public int core(int version, int i) {
        if (!history.knows(version)) {
            return UNKNOWN;
        }
        if (verdict.length < 1) {
            return STATE;
        }
        families.findCores(history.holds[version]);
        return i == -1 ? families.countFound() : families.foundAt(i);
    }

    public int told(int what) {
        switch (what) {
            case 0:
                return history.count;
            case 1:
                return log.count;
            case 2:
                return signs.length;
            case 3:
                return verdict.length;
            case 9:
                return history.everyVersion() & ~history.hearing();
            default:
                break;
        }
        if (isFrom(what, 4, 3 + TRUSTS)) {
            return stories.trusts[what - 4];
        }
        for (int row = SIZE; row <= NEEDS; row++) {
            int first = 10 + 20 * row;
            if (isFrom(what, first, first + MOST_VERSIONS - 1)) {
                return history.knows(what - first) ? history.row(row)[what - first] : NONE;
            }
        }
        return OUTSIDE;
    }

    // ---- helpers of the face

    private void forgetPartings() {
        fewest.stale = true;
        cheapest.stale = true;
    }

    private int storyRefusal(int sort, int change, int other) {
        if (!isFrom(sort, 0, SORTS - 1)) {
            return OUTSIDE;
        }
        if (!history.knows(change)) {
            return UNKNOWN;
        }
        if (sort == ONE) {
            return 0;
        }
        boolean stands = history.knows(other) && (sort == BOTH ? change < other : change != other);
        return stands ? 0 : UNKNOWN;
    }

    private int parting(Partings partings, int set, int what) {
        if ((set & ~history.everyVersion()) != 0 || !isFrom(what, 0, 1)) {
            return OUTSIDE;
        }
        return what == 0 ? partings.price(set) : partings.start(set);
    }

    private static boolean isFrom(int v, int least, int most) {
        return v >= least && v <= most;
    }

    private static int asNumber(boolean so) {
        return so ? 1 : 0;
    }

    private static boolean isBit(int bits, int place) {
        return (bits >> place & 1) != 0;
    }

    private static int swap(int[] row, int place, int v) {
        int was = row[place];
        row[place] = v;
        return was;
    }

    private static long fraction(long upper, long lower, int part) {
        if (upper <= 0 || lower <= 0) {
            return part;
        }
        return (part == 0 ? upper : lower) / commonDivisor(upper, lower);
    }

    private static long commonDivisor(long a, long b) {
        // Euclid's steps on two longs are fewer than a hundred.
        for (int i = 0; i < 200 && b != 0; i++) {
            long rest = a % b;
            a = b;
            b = rest;
        }
        return Math.max(1L, a);
    }

    // ---- the places of stories: by sort, then the first change, then the second one

    private static int storyAt(int sort, int first, int second) {
        return (sort * MOST_VERSIONS + first) * MOST_VERSIONS + second;
    }

    private static int sortAt(int story) {
        return story / (MOST_VERSIONS * MOST_VERSIONS);
    }

    private static int firstAt(int story) {
        return story / MOST_VERSIONS % MOST_VERSIONS;
    }

    private static int secondAt(int story) {
        return story % MOST_VERSIONS;
    }

    // ---- words of sets

    /** Of the 64 sets of a word, those that have the change. */
    private static long setsWith(int change, int word) {
        if (change < LOW_CHANGES) {
            return LOW_SETS[change];
        }
        return isBit(word, change - LOW_CHANGES) ? -1L : 0L;
    }

    /** Of the 64 sets of a word, those that have all of these changes. */
    private static long setsWithAll(int changes, int word) {
        long sets = -1L;
        for (int c = 0; c < MOST_VERSIONS; c++) {
            if (isBit(changes, c)) {
                sets &= setsWith(c, word);
            }
        }
        return sets;
    }

    /** Of the 64 sets of a word, those that have none but these changes. */
    private static long setsWithin(int changes, int word) {
        long sets = -1L;
        for (int c = 0; c < MOST_VERSIONS; c++) {
            if (!isBit(changes, c)) {
                sets &= ~setsWith(c, word);
            }
        }
        return sets;
    }

    /** Of the 64 sets of a word, those that a set of the row becomes when it is given the change. */
    private static long setsGiven(int change, long[] row, int word) {
        if (change < LOW_CHANGES) {
            return (row[word] & ~LOW_SETS[change]) << (1 << change);
        }
        int bit = 1 << (change - LOW_CHANGES);
        return (word & bit) != 0 ? row[word ^ bit] : 0L;
    }

    private static boolean isAmong(long[] row, int set) {
        return isOfWord(row[set >> LOW_CHANGES], set);
    }

    private static boolean isOfWord(long sets, int set) {
        return (sets >>> (set & (SETS_OF_WORD - 1)) & 1L) != 0;
    }

    /** The versions, each with the change of its own number, and what is set of them. */
    private static final class History {
        int count;
        final int[] holds = new int[MOST_VERSIONS];
        final int[] carriers = new int[MOST_VERSIONS];
        final int[] size = new int[MOST_VERSIONS];
        final int[] cost = new int[MOST_VERSIONS];
        final int[] needs = new int[MOST_VERSIONS];
        final int[] deaf = new int[MOST_VERSIONS];

        boolean knows(int version) {
            return version >= 0 && version < count;
        }

        boolean hears(int version) {
            return knows(version) && deaf[version] == 0;
        }

        boolean mayStandOn(int on, int other) {
            if (other == -1) {
                return on == -1 || knows(on);
            }
            return knows(on) && knows(other) && on != other;
        }

        int add(int on, int other, int itsSize) {
            int made = count;
            int below = (knows(on) ? holds[on] : 0) | (knows(other) ? holds[other] : 0);
            holds[made] = below | 1 << made;
            for (int c = 0; c <= made; c++) {
                if (isBit(holds[made], c)) {
                    carriers[c] |= 1 << made;
                }
            }
            size[made] = itsSize;
            cost[made] = 1;
            count = made + 1;
            return made;
        }

        boolean mayBe(int version, int what, int v) {
            switch (what) {
                case SIZE:
                case COST:
                    return isFrom(v, 1, 9);
                case NEEDS:
                    return isFrom(v, 0, (1 << version) - 1);
                case DEAF:
                    return isFrom(v, 0, 1);
                default:
                    return false;
            }
        }

        int[] row(int what) {
            switch (what) {
                case SIZE:
                    return size;
                case COST:
                    return cost;
                case NEEDS:
                    return needs;
                default:
                    return deaf;
            }
        }

        int everyVersion() {
            return (1 << count) - 1;
        }

        int hearing() {
            int bits = 0;
            for (int v = 0; v < count; v++) {
                if (deaf[v] == 0) {
                    bits |= 1 << v;
                }
            }
            return bits;
        }

        int twinsOf(int change) {
            int able = hearing();
            int bits = 0;
            for (int c = 0; c < count; c++) {
                if (((carriers[c] ^ carriers[change]) & able) == 0) {
                    bits |= 1 << c;
                }
            }
            return bits;
        }

        int sizes(int set) {
            int sum = 0;
            for (int c = 0; c < count; c++) {
                if (isBit(set, c)) {
                    sum += size[c];
                }
            }
            return sum;
        }
    }

    /** The tests, in their order. */
    private static final class Log {
        int count;
        final int[] version = new int[MOST_TESTS];
        final boolean[] passed = new boolean[MOST_TESTS];

        /** Its number; FULL. */
        int add(int itsVersion, boolean itPassed) {
            int made = count;
            if (made >= MOST_TESTS) {
                return FULL;
            }
            version[made] = itsVersion;
            passed[made] = itPassed;
            count = made + 1;
            return made;
        }

        boolean holdsTestOf(int itsVersion) {
            for (int t = 0; t < count; t++) {
                if (version[t] == itsVersion) {
                    return true;
                }
            }
            return false;
        }
    }

    /** The stories, their weights by the tests, and what follows for the next test. */
    private static final class Stories {
        final History history;
        final Log log;
        final int[] trusts = new int[TRUSTS];
        // The stories that have a weight, in their order; of ONE the second change is the first again.
        int count;
        final int[] places = new int[MOST_STORIES];
        final long[] weights = new long[MOST_STORIES];
        final int[] failing = new int[MOST_STORIES];
        long all;
        int heaviest;
        long most;

        Stories(History history, Log log) {
            this.history = history;
            this.log = log;
            trusts[FAITH + ONE] = 1;
        }

        /** Versions on which it should fail, as bits. */
        int failingOf(int sort, int first, int second) {
            int carriers = history.carriers[first];
            switch (sort) {
                case BOTH:
                    return carriers & history.carriers[second];
                case MENDED:
                    return carriers & ~history.carriers[second];
                default:
                    return carriers;
            }
        }

        /** Tenths by which a test comes out so. */
        int tenths(boolean shouldFail, boolean passed) {
            if (shouldFail) {
                return passed ? trusts[MISS] : 10 - trusts[MISS];
            }
            return passed ? 10 - trusts[FALSE] : trusts[FALSE];
        }

        long weightOf(int sort, int first, int second) {
            long product = trusts[FAITH + sort] * history.size[first];
            if (sort != ONE) {
                product *= history.size[second];
            }
            int bits = failingOf(sort, first, second);
            for (int t = 0; t < log.count && product != 0; t++) {
                product *= tenths(isBit(bits, log.version[t]), log.passed[t]);
            }
            return product;
        }

        void weigh() {
            count = 0;
            all = 0;
            heaviest = 0;
            most = 0;
            for (int sort = 0; sort < SORTS; sort++) {
                for (int first = 0; first < history.count; first++) {
                    weighFrom(sort, first);
                }
            }
        }

        private void weighFrom(int sort, int first) {
            int from = sort == ONE ? first : sort == BOTH ? first + 1 : 0;
            int to = sort == ONE ? first + 1 : history.count;
            for (int second = from; second < to; second++) {
                if (sort != MENDED || second != first) {
                    take(sort, first, second);
                }
            }
        }

        private void take(int sort, int first, int second) {
            long itsWeight = weightOf(sort, first, second);
            if (itsWeight == 0 || count >= MOST_STORIES) {
                return;
            }
            places[count] = storyAt(sort, first, second);
            weights[count] = itsWeight;
            failing[count] = failingOf(sort, first, second);
            all += itsWeight;
            if (itsWeight > most) {
                most = itsWeight;
                heaviest = places[count];
            }
            count++;
        }

        long weightOfSort(int sort) {
            long sum = 0;
            for (int i = 0; i < count; i++) {
                if (sortAt(places[i]) == sort) {
                    sum += weights[i];
                }
            }
            return sum;
        }

        long weightBlaming(int change) {
            long sum = 0;
            for (int i = 0; i < count; i++) {
                boolean isSecond = sortAt(places[i]) == BOTH && secondAt(places[i]) == change;
                if (firstAt(places[i]) == change || isSecond) {
                    sum += weights[i];
                }
            }
            return sum;
        }

        /** The most weight behind a pass and behind a fail together: ten times what the guess will be right by. */
        long hopeWeight(int version) {
            long behindPass = 0;
            long behindFail = 0;
            for (int i = 0; i < count; i++) {
                boolean shouldFail = isBit(failing[i], version);
                behindPass = Math.max(behindPass, weights[i] * tenths(shouldFail, true));
                behindFail = Math.max(behindFail, weights[i] * tenths(shouldFail, false));
            }
            return behindPass + behindFail;
        }

        /** How far the weights by which it should fail and all others are apart. */
        long gap(int version) {
            long shouldFail = 0;
            for (int i = 0; i < count; i++) {
                if (isBit(failing[i], version)) {
                    shouldFail += weights[i];
                }
            }
            return Math.abs(all - 2 * shouldFail);
        }

        int nextVersion(int how) {
            int best = NONE;
            long least = 0;
            for (int v = 0; v < history.count; v++) {
                if (!history.hears(v)) {
                    continue;
                }
                long loss = how == HALVES ? gap(v) : -hopeWeight(v);
                boolean cheaper = best != NONE && loss == least && history.cost[v] < history.cost[best];
                if (best == NONE || loss < least || cheaper) {
                    best = v;
                    least = loss;
                }
            }
            return best;
        }

        boolean guessIsBelow(int limit) {
            return all == 0 || 10 * most < limit * all;
        }
    }

    /** Rows of tests without lies that part a set as far as it can be, the fewest or the cheapest. */
    private static final class Partings {
        final History history;
        final boolean byCost;
        // One more than a set's price; 0 while it is not known.
        final int[] known = new int[SETS];
        boolean stale;

        Partings(History history, boolean byCost) {
            this.history = history;
            this.byCost = byCost;
        }

        int price(int set) {
            refresh();
            return priceAt(set, 0);
        }

        int start(int set) {
            refresh();
            int least = priceAt(set, 0);
            for (int v = 0; v < history.count; v++) {
                if (parts(v, set) && priceBy(v, set, 0) == least) {
                    return v;
                }
            }
            return NONE;
        }

        private void refresh() {
            if (stale) {
                Arrays.fill(known, 0);
                stale = false;
            }
        }

        private boolean parts(int version, int set) {
            int in = set & history.holds[version];
            return history.hears(version) && in != 0 && in != set;
        }

        // Both parts of a set are smaller than it is, so no set lies deeper than there are changes.
        private int priceAt(int set, int depth) {
            if (depth > MOST_VERSIONS || !isFrom(set, 0, SETS - 1)) {
                return 0;
            }
            if (known[set] > 0) {
                return known[set] - 1;
            }
            int least = -1;
            for (int v = 0; v < history.count; v++) {
                if (parts(v, set)) {
                    int price = priceBy(v, set, depth);
                    least = least < 0 ? price : Math.min(least, price);
                }
            }
            least = Math.max(0, least);
            known[set] = least + 1;
            return least;
        }

        private int priceBy(int version, int set, int depth) {
            int in = priceAt(set & history.holds[version], depth + 1);
            int others = priceAt(set & ~history.holds[version], depth + 1);
            if (byCost) {
                return history.cost[version] * history.sizes(set) + in + others;
            }
            return 1 + Math.max(in, others);
        }
    }

    /** Signs, and whether they are a text. */
    private static final class Text {
        int length;
        final int[] signs = new int[MOST_SIGNS];
        // For each text that must still come, within how many others it lies.
        final int[] due = new int[MOST_SIGNS + 2];

        /** How many signs there are then; FULL. */
        int add(int sign) {
            if (length >= MOST_SIGNS) {
                return FULL;
            }
            signs[length] = sign;
            length++;
            return length;
        }

        /** How many texts of its own a sign has. */
        static int textsOf(int sign) {
            if (sign >= 'a' && sign < 'a' + MOST_VERSIONS) {
                return 0;
            }
            switch (sign) {
                case '!':
                    return 1;
                case '&':
                case '|':
                    return 2;
                default:
                    return NO_TEXT;
            }
        }

        int firstFault() {
            int waiting = 1;
            due[0] = 0;
            for (int i = 0; i < length; i++) {
                if (waiting == 0) {
                    return i;
                }
                waiting--;
                int within = due[waiting];
                int texts = textsOf(signs[i]);
                if (texts == NO_TEXT || texts > 0 && within >= MOST_WITHIN) {
                    return i;
                }
                for (int k = 0; k < texts; k++) {
                    due[waiting] = within + 1;
                    waiting++;
                }
            }
            return waiting == 0 ? NONE : length;
        }
    }

    /** The truth: which of all sets fail. */
    private static final class Truth {
        int length;
        final long[] failing = new long[WORDS];
        final long[] values = new long[MOST_SIGNS];

        void take(Text text) {
            length = text.length;
            for (int word = 0; word < WORDS; word++) {
                failing[word] = valueOf(text, word);
            }
        }

        // Signs stand ahead of their texts, so read from the end every sign finds its texts' values.
        private long valueOf(Text text, int word) {
            int top = 0;
            for (int i = text.length - 1; i >= 0; i--) {
                int sign = text.signs[i];
                int texts = Text.textsOf(sign);
                if (texts == NO_TEXT || texts > top) {
                    return 0L;
                }
                if (texts == 0) {
                    values[top] = setsWith(sign - 'a', word);
                    top++;
                } else if (texts == 1) {
                    values[top - 1] = ~values[top - 1];
                } else {
                    top--;
                    long first = values[top];
                    long second = values[top - 1];
                    values[top - 1] = sign == '&' ? first & second : first | second;
                }
            }
            return top == 1 ? values[0] : 0L;
        }
    }

    /** Families of sets of changes: those to take out, those that fail at the least. */
    private static final class Families {
        final History history;
        final Truth truth;
        final long[] found = new long[WORDS];
        final long[] holding = new long[WORDS];

        Families(History history, Truth truth) {
            this.history = history;
            this.truth = truth;
        }

        private long soundSets(int word) {
            long sets = -1L;
            for (int c = 0; c < history.count; c++) {
                if (history.needs[c] != 0) {
                    sets &= ~setsWith(c, word) | setsWithAll(history.needs[c], word);
                }
            }
            return sets;
        }

        boolean isSound(int set) {
            return isOfWord(soundSets(set >> LOW_CHANGES), set);
        }

        /** The set to take out of these changes; NO. */
        int leastOut(int changes) {
            for (int word = 0; word < WORDS; word++) {
                found[word] = soundSets(word) & ~truth.failing[word];
            }
            int best = NO;
            int out = 0;
            for (int i = 0; i < SETS; i++) {
                if (isAmong(found, changes & ~out) && (best == NO || isLess(out, best))) {
                    best = out;
                }
                if (out == changes) {
                    break;
                }
                // The next greater set of these changes: the borrow runs through the bits of no change.
                out = (out - changes) & changes;
            }
            return best;
        }

        private boolean isLess(int set, int other) {
            int more = Integer.bitCount(set) - Integer.bitCount(other);
            return more < 0 || more == 0 && history.sizes(set) < history.sizes(other);
        }

        /** The sets of these changes that are sound and fail, but no sound part of which does. */
        void findCores(int changes) {
            for (int word = 0; word < WORDS; word++) {
                found[word] = soundSets(word) & truth.failing[word] & setsWithin(changes, word);
                holding[word] = found[word];
            }
            for (int c = 0; c < MOST_VERSIONS; c++) {
                for (int word = 0; word < WORDS; word++) {
                    holding[word] |= setsGiven(c, holding, word);
                }
            }
            for (int word = 0; word < WORDS; word++) {
                for (int c = 0; c < MOST_VERSIONS; c++) {
                    found[word] &= ~setsGiven(c, holding, word);
                }
            }
        }

        int countFound() {
            int sum = 0;
            for (int word = 0; word < WORDS; word++) {
                sum += Long.bitCount(found[word]);
            }
            return sum;
        }

        int foundAt(int place) {
            int left = place;
            for (int word = 0; word < WORDS && left >= 0; word++) {
                int here = Long.bitCount(found[word]);
                if (left < here) {
                    return foundFrom(word * SETS_OF_WORD, left);
                }
                left -= here;
            }
            return NONE;
        }

        private int foundFrom(int firstSet, int place) {
            int left = place;
            for (int set = firstSet; set < firstSet + SETS_OF_WORD && set < SETS; set++) {
                if (isAmong(found, set)) {
                    if (left == 0) {
                        return set;
                    }
                    left--;
                }
            }
            return NONE;
        }
    }
}
