import java.math.BigInteger;
import java.util.ArrayList;
import java.util.HashMap;
import java.util.List;
import java.util.Map;
import java.util.Set;
import java.util.TreeSet;

/** The document's words in their most literal form, slow and with sets and big numbers: the judge of random runs. */
final class Model {
    static final long LOST = BrokeWhere.LOST;
    final List<Set<Integer>> has = new ArrayList<>();
    final List<Integer> size = new ArrayList<>();
    final List<Integer> cost = new ArrayList<>();
    final List<Integer> needs = new ArrayList<>();
    final List<Boolean> deaf = new ArrayList<>();
    final List<Integer> testVersion = new ArrayList<>();
    final List<Boolean> testPassed = new ArrayList<>();
    final int[] trust = {0, 0, 1, 0, 0};
    String signs = "";
    String truth = "";

    record Story(int sort, int first, int second) { }

    int n() {
        return has.size();
    }

    boolean known(int v) {
        return v >= 0 && v < n();
    }

    static int bits(Set<Integer> set) {
        int b = 0;
        for (int i : set) {
            b += 1 << i;
        }
        return b;
    }

    static Set<Integer> asSet(int bits) {
        Set<Integer> s = new TreeSet<>();
        for (int i = 0; i < 31; i++) {
            if ((bits & (1 << i)) != 0) {
                s.add(i);
            }
        }
        return s;
    }

    int version(int on, int other, int sz) {
        boolean ok = on == -1 && other == -1 || known(on) && other == -1 || known(on) && known(other) && on != other;
        if (!ok) {
            return -1;
        }
        if (sz < 1 || sz > 9) {
            return -2;
        }
        if (n() == 12) {
            return -4;
        }
        Set<Integer> mine = new TreeSet<>();
        mine.add(n());
        if (on >= 0) {
            mine.addAll(has.get(on));
        }
        if (other >= 0) {
            mine.addAll(has.get(other));
        }
        has.add(mine);
        size.add(sz);
        cost.add(1);
        needs.add(0);
        deaf.add(false);
        return n() - 1;
    }

    int has(int v) {
        return known(v) ? bits(has.get(v)) : -1;
    }

    int set(int v, int what, int x) {
        if (!known(v)) {
            return -1;
        }
        if (what == 0 && x >= 1 && x <= 9) {
            return size.set(v, x);
        }
        if (what == 1 && x >= 1 && x <= 9) {
            return cost.set(v, x);
        }
        if (what == 2 && x >= 0 && (x >> v) == 0) {
            return needs.set(v, x);
        }
        if (what == 3 && (x == 0 || x == 1)) {
            if (x == 1 && testVersion.contains(v)) {
                return -3;
            }
            return deaf.set(v, x == 1) ? 1 : 0;
        }
        return -2;
    }

    int trust(int which, int v) {
        if (which < 0 || which > 4 || v < 0 || v > (which <= 1 ? 5 : 9)) {
            return -2;
        }
        int was = trust[which];
        trust[which] = v;
        return was;
    }

    int test(int v, boolean passed) {
        if (!known(v)) {
            return -1;
        }
        if (deaf.get(v)) {
            return -3;
        }
        if (testVersion.size() == 12) {
            return -4;
        }
        testVersion.add(v);
        testPassed.add(passed);
        return testVersion.size() - 1;
    }

    int tested(int t, int what) {
        if (t < 0 || t >= testVersion.size()) {
            return -1;
        }
        return what == 0 ? testVersion.get(t) : what == 1 ? (testPassed.get(t) ? 1 : 0) : -2;
    }

    int untest() {
        int k = testVersion.size();
        if (k == 0) {
            return -5;
        }
        testVersion.remove(k - 1);
        testPassed.remove(k - 1);
        return k - 1;
    }

    List<Story> stories() {
        List<Story> all = new ArrayList<>();
        for (int a = 0; a < n(); a++) {
            all.add(new Story(0, a, -1));
        }
        for (int a = 0; a < n(); a++) {
            for (int b = a + 1; b < n(); b++) {
                all.add(new Story(1, a, b));
            }
        }
        for (int a = 0; a < n(); a++) {
            for (int b = 0; b < n(); b++) {
                if (a != b) {
                    all.add(new Story(2, a, b));
                }
            }
        }
        return all;
    }

    boolean shouldFail(Story s, int v) {
        Set<Integer> h = has.get(v);
        if (s.sort == 0) {
            return h.contains(s.first);
        }
        if (s.sort == 1) {
            return h.contains(s.first) && h.contains(s.second);
        }
        return h.contains(s.first) && !h.contains(s.second);
    }

    BigInteger gives(Story s, int v, boolean passed) {
        int miss = trust[0];
        int wrong = trust[1];
        int t;
        if (shouldFail(s, v)) {
            t = passed ? miss : 10 - miss;
        } else {
            t = passed ? 10 - wrong : wrong;
        }
        return BigInteger.valueOf(t);
    }

    BigInteger weight(Story s) {
        BigInteger w = BigInteger.valueOf(trust[2 + s.sort]).multiply(BigInteger.valueOf(size.get(s.first)));
        if (s.sort != 0) {
            w = w.multiply(BigInteger.valueOf(size.get(s.second)));
        }
        for (int t = 0; t < testVersion.size(); t++) {
            w = w.multiply(gives(s, testVersion.get(t), testPassed.get(t)));
        }
        return w;
    }

    BigInteger all() {
        BigInteger sum = BigInteger.ZERO;
        for (Story s : stories()) {
            sum = sum.add(weight(s));
        }
        return sum;
    }

    static long fraction(BigInteger up, BigInteger low, int part) {
        if (up.signum() == 0 || low.signum() == 0) {
            return part == 0 ? 0 : 1;
        }
        BigInteger g = up.gcd(low);
        return (part == 0 ? up : low).divide(g).longValueExact();
    }

    private int storyRefused(int sort, int a, int b) {
        if (sort < 0 || sort > 2) {
            return -2;
        }
        if (!known(a)) {
            return -1;
        }
        if (sort > 0 && (!known(b) || a == b)) {
            return -1;
        }
        return sort == 1 && a > b ? -1 : 0;
    }

    long weight(int sort, int a, int b) {
        int r = storyRefused(sort, a, b);
        return r != 0 ? LOST + r : weight(new Story(sort, a, b)).longValueExact();
    }

    long odds(int sort, int a, int b, int part) {
        int r = storyRefused(sort, a, b);
        if (r != 0) {
            return LOST + r;
        }
        if (part < 0 || part > 1) {
            return LOST - 2;
        }
        return fraction(weight(new Story(sort, a, b)), all(), part);
    }

    long sorts(int sort, int part) {
        if (sort < 0 || sort > 2 || part < 0 || part > 1) {
            return LOST - 2;
        }
        BigInteger sum = BigInteger.ZERO;
        for (Story s : stories()) {
            if (s.sort == sort) {
                sum = sum.add(weight(s));
            }
        }
        return fraction(sum, all(), part);
    }

    long blame(int c, int part) {
        if (!known(c)) {
            return LOST - 1;
        }
        if (part < 0 || part > 1) {
            return LOST - 2;
        }
        BigInteger sum = BigInteger.ZERO;
        for (Story s : stories()) {
            if (s.first == c || s.sort == 1 && s.second == c) {
                sum = sum.add(weight(s));
            }
        }
        return fraction(sum, all(), part);
    }

    Story best() {
        Story best = null;
        for (Story s : stories()) {
            if (best == null || weight(s).compareTo(weight(best)) > 0) {
                best = s;
            }
        }
        return best == null || weight(best).signum() == 0 ? null : best;
    }

    int guess(int what) {
        if (what < 0 || what > 2) {
            return -2;
        }
        Story b = best();
        if (b == null) {
            return -5;
        }
        return what == 0 ? b.sort : what == 1 ? b.first : b.sort == 0 ? -6 : b.second;
    }

    BigInteger hopeUpper(int v) {
        BigInteger sum = BigInteger.ZERO;
        for (boolean passed : new boolean[] {true, false}) {
            BigInteger most = BigInteger.ZERO;
            for (Story s : stories()) {
                most = most.max(weight(s).multiply(gives(s, v, passed)));
            }
            sum = sum.add(most);
        }
        return sum;
    }

    long hope(int v, int part) {
        if (!known(v) || deaf.get(v)) {
            return LOST - 1;
        }
        if (part < 0 || part > 1) {
            return LOST - 2;
        }
        return fraction(hopeUpper(v), all().multiply(BigInteger.TEN), part);
    }

    int next(int how) {
        if (how < 0 || how > 1) {
            return -2;
        }
        int best = -6;
        BigInteger bestLoss = null;
        for (int v = 0; v < n(); v++) {
            if (deaf.get(v)) {
                continue;
            }
            BigInteger loss;
            if (how == 1) {
                loss = hopeUpper(v).negate();
            } else {
                BigInteger in = BigInteger.ZERO;
                BigInteger others = BigInteger.ZERO;
                for (Story s : stories()) {
                    if (shouldFail(s, v)) {
                        in = in.add(weight(s));
                    } else {
                        others = others.add(weight(s));
                    }
                }
                loss = in.subtract(others).abs();
            }
            int c = bestLoss == null ? -1 : loss.compareTo(bestLoss);
            if (c < 0 || c == 0 && cost.get(v) < cost.get(best)) {
                best = v;
                bestLoss = loss;
            }
        }
        return best;
    }

    private boolean outsideSet(int set, int what) {
        return set < 0 || (set >> n()) != 0 || what < 0 || what > 1;
    }

    private int[][] parts(int set, int v) {
        if (deaf.get(v)) {
            return null;
        }
        int in = set & bits(has.get(v));
        int rest = set & ~bits(has.get(v));
        return in == 0 || rest == 0 ? null : new int[][] {{in}, {rest}};
    }

    /** Price of a set and the least version that starts it, by fewest tests or by cost. */
    private int[] plan(int set, boolean byCost, Map<Integer, int[]> memo) {
        if (memo.containsKey(set)) {
            return memo.get(set);
        }
        int[] best = {0, -6};
        int weight = 0;
        for (int c : asSet(set)) {
            weight += size.get(c);
        }
        for (int v = n() - 1; v >= 0; v--) {
            int[][] p = parts(set, v);
            if (p == null) {
                continue;
            }
            int a = plan(p[0][0], byCost, memo)[0];
            int b = plan(p[1][0], byCost, memo)[0];
            int price = byCost ? weight * cost.get(v) + a + b : 1 + (a > b ? a : b);
            if (best[1] == -6 || price <= best[0]) {
                best = new int[] {price, v};
            }
        }
        memo.put(set, best);
        return best;
    }

    int worst(int set, int what) {
        return outsideSet(set, what) ? -2 : plan(set, false, new HashMap<>())[what];
    }

    int mean(int set, int what) {
        return outsideSet(set, what) ? -2 : plan(set, true, new HashMap<>())[what];
    }

    int twins(int c) {
        if (!known(c)) {
            return -1;
        }
        int b = 0;
        for (int d = 0; d < n(); d++) {
            boolean apart = false;
            for (int v = 0; v < n(); v++) {
                if (!deaf.get(v) && has.get(v).contains(c) != has.get(v).contains(d)) {
                    apart = true;
                }
            }
            b += apart ? 0 : 1 << d;
        }
        return b;
    }

    int say(int sign) {
        if (sign < 33 || sign > 126) {
            return -2;
        }
        if (signs.length() == 40) {
            return -4;
        }
        signs += (char) sign;
        return signs.length();
    }

    int wipe() {
        int k = signs.length();
        signs = "";
        return k;
    }

    /** Place behind the text that begins at i, or -1 less the place of the fault. */
    private int behind(int i, int within) {
        if (i >= signs.length()) {
            return -1 - signs.length();
        }
        char c = signs.charAt(i);
        if ("abcdefghijkl".indexOf(c) >= 0) {
            return i + 1;
        }
        if ("!&|".indexOf(c) < 0 || within == 9) {
            return -1 - i;
        }
        int j = behind(i + 1, within + 1);
        return j < 0 || c == '!' ? j : behind(j, within + 1);
    }

    int fault() {
        int j = behind(0, 0);
        return j < 0 ? -1 - j : j < signs.length() ? j : -6;
    }

    int truth() {
        if (fault() != -6) {
            return -5;
        }
        truth = signs;
        signs = "";
        return truth.length();
    }

    private int at;

    private boolean valueAt(int set) {
        char c = truth.charAt(at++);
        if (c == '!') {
            return !valueAt(set);
        }
        if (c == '&' || c == '|') {
            boolean a = valueAt(set);
            boolean b = valueAt(set);
            return c == '&' ? a && b : a || b;
        }
        return (set >> (c - 'a') & 1) == 1;
    }

    boolean failing(int set) {
        at = 0;
        return valueAt(set);
    }

    boolean sound(int set) {
        for (int c = 0; c < n(); c++) {
            if ((set >> c & 1) == 1 && (needs.get(c) & set) != needs.get(c)) {
                return false;
            }
        }
        return true;
    }

    int fails(int set, int what) {
        if (set < 0 || set > 4095 || what < 0 || what > 1) {
            return -2;
        }
        if (what == 0 && truth.isEmpty()) {
            return -3;
        }
        return (what == 0 ? failing(set) : sound(set)) ? 1 : 0;
    }

    int play(int limit) {
        if (limit < 1 || limit > 10) {
            return -2;
        }
        if (truth.isEmpty()) {
            return -3;
        }
        if (!deaf.contains(false)) {
            return -5;
        }
        testVersion.clear();
        testPassed.clear();
        while (testVersion.size() < 12) {
            Story b = best();
            if (b != null) {
                BigInteger ten = weight(b).multiply(BigInteger.TEN);
                if (ten.compareTo(all().multiply(BigInteger.valueOf(limit))) >= 0) {
                    break;
                }
            }
            int v = next(1);
            testVersion.add(v);
            testPassed.add(!failing(bits(has.get(v))));
        }
        return testVersion.size();
    }

    private int sizes(int set) {
        int sum = 0;
        for (int c : asSet(set)) {
            sum += size.get(c);
        }
        return sum;
    }

    int out(int v, int what) {
        if (!known(v)) {
            return -1;
        }
        if (what < 0 || what > 1) {
            return -2;
        }
        if (truth.isEmpty()) {
            return -3;
        }
        int all = bits(has.get(v));
        long best = Long.MAX_VALUE;
        for (int o = 0; o < 4096; o++) {
            if ((o & all) == o && sound(all ^ o) && !failing(all ^ o)) {
                long rank = (Integer.bitCount(o) * 1000L + sizes(o)) * 4096 + o;
                best = rank < best ? rank : best;
            }
        }
        if (best == Long.MAX_VALUE) {
            return -5;
        }
        int o = (int) (best % 4096);
        return what == 0 ? o : sizes(o);
    }

    int core(int v, int i) {
        if (!known(v)) {
            return -1;
        }
        if (truth.isEmpty()) {
            return -3;
        }
        int all = bits(has.get(v));
        boolean[] bad = new boolean[4096];
        for (int s = 0; s < 4096; s++) {
            bad[s] = (s & all) == s && sound(s) && failing(s);
        }
        List<Integer> cores = new ArrayList<>();
        for (int s = 0; s < 4096; s++) {
            boolean least = bad[s];
            for (int p = s; least && p > 0;) {
                p = (p - 1) & s;
                least = !bad[p];
            }
            if (least) {
                cores.add(s);
            }
        }
        return i == -1 ? cores.size() : i < 0 || i >= cores.size() ? -6 : cores.get(i);
    }

    int told(int what) {
        if (what == 0) {
            return n();
        }
        if (what == 1) {
            return testVersion.size();
        }
        if (what == 2) {
            return signs.length();
        }
        if (what == 3) {
            return truth.length();
        }
        if (what >= 4 && what <= 8) {
            return trust[what - 4];
        }
        if (what == 9) {
            int b = 0;
            for (int v = 0; v < n(); v++) {
                b += deaf.get(v) ? 1 << v : 0;
            }
            return b;
        }
        List<Integer> row;
        int from;
        if (what >= 10 && what <= 21) {
            row = size;
            from = 10;
        } else if (what >= 30 && what <= 41) {
            row = cost;
            from = 30;
        } else if (what >= 50 && what <= 61) {
            row = needs;
            from = 50;
        } else {
            return -2;
        }
        return what - from < n() ? row.get(what - from) : -6;
    }
}
