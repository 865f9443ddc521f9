/** For each promise of the document: ordinary inputs, the edges it names, wrong inputs; answers worked out by hand. */
public final class PromiseTest {
    private static final int MIN = Integer.MIN_VALUE, MAX = Integer.MAX_VALUE;
    private static final int NONE = -6, UNKNOWN = -1, OUTSIDE = -2, STATE = -3, FULL = -4, NO = -5;
    private static final long LOST = -1000000000000000000L;
    private static final Check CHECK = new Check("PromiseTest");
    private static int promise;

    public static void main(String[] args) {
        newObject();
        version();
        has();
        set();
        trust();
        test();
        tested();
        untest();
        weight();
        odds();
        sorts();
        blame();
        guess();
        hope();
        next();
        worst();
        mean();
        twins();
        say();
        wipe();
        fault();
        truth();
        fails();
        play();
        out();
        core();
        told();
        CHECK.end();
    }

    private static void due(String call, long got, long want) {
        CHECK.due("promise " + promise + " " + call, got, want);
    }

    private static void newObject() {
        promise = 1;
        BrokeWhere x = new BrokeWhere();
        due("told(0)", x.told(0), 0);
        due("told(1)", x.told(1), 0);
        due("told(2)", x.told(2), 0);
        due("told(3)", x.told(3), 0);
        due("has(0)", x.has(0), UNKNOWN);
        due("fails", x.fails(0, 0), STATE);
        due("next", x.next(1), NONE);
        BrokeWhere y = new BrokeWhere();
        x.version(-1, -1, 3);
        due("another object", y.told(0), 0);
    }

    private static void version() {
        promise = 2;
        BrokeWhere x = new BrokeWhere();
        due("on none", x.version(-1, -1, 1), 0);
        due("on one", x.version(0, -1, 9), 1);
        due("on one", x.version(0, -1, 2), 2);
        due("on two", x.version(1, 2, 3), 3);
        due("on two, the greater one first", x.version(2, 1, 3), 4);
        due("on itself to be", x.version(5, -1, 1), UNKNOWN);
        due("below -1", x.version(-2, -1, 1), UNKNOWN);
        due("other below -1", x.version(0, -2, 1), UNKNOWN);
        due("other not there", x.version(0, 5, 1), UNKNOWN);
        due("both are one", x.version(2, 2, 1), UNKNOWN);
        due("-1 ahead", x.version(-1, 2, 1), UNKNOWN);
        due("far", x.version(MAX, -1, 1), UNKNOWN);
        due("far", x.version(MIN, MIN, 1), UNKNOWN);
        due("unknown ahead of size", x.version(7, -1, 0), UNKNOWN);
        due("size 0", x.version(0, -1, 0), OUTSIDE);
        due("size 10", x.version(0, -1, 10), OUTSIDE);
        due("size", x.version(0, -1, MIN), OUTSIDE);
        for (int i = 5; i < 12; i++) {
            due("up to twelve", x.version(i - 1, -1, 1), i);
        }
        due("full", x.version(11, -1, 1), FULL);
        due("size ahead of full", x.version(11, -1, 10), OUTSIDE);
        due("unknown ahead of full", x.version(12, -1, 1), UNKNOWN);
        due("count", x.told(0), 12);
    }

    private static void has() {
        promise = 3;
        BrokeWhere x = Made.chain(1, 1, 1);
        x.version(0, -1, 1);
        x.version(2, 3, 1);
        x.version(-1, -1, 1);
        due("root", x.has(0), 1);
        due("chain", x.has(2), 7);
        due("branch", x.has(3), 9);
        due("joined", x.has(4), 31);
        due("alone", x.has(5), 32);
        due("not there", x.has(6), UNKNOWN);
        due("below", x.has(-1), UNKNOWN);
        due("far", x.has(MIN), UNKNOWN);
    }

    private static void set() {
        promise = 4;
        BrokeWhere x = Made.chain(4, 5, 6);
        due("size was", x.set(1, 0, 9), 5);
        due("size was", x.set(1, 0, 1), 9);
        due("cost was", x.set(1, 1, 7), 1);
        due("cost was", x.set(1, 1, 2), 7);
        due("needs was", x.set(2, 2, 3), 0);
        due("needs was", x.set(2, 2, 0), 3);
        due("needs of itself", x.set(2, 2, 4), OUTSIDE);
        due("needs of the first", x.set(0, 2, 0), 0);
        due("needs of the first", x.set(0, 2, 1), OUTSIDE);
        due("needs below", x.set(2, 2, -1), OUTSIDE);
        due("deaf was", x.set(2, 3, 1), 0);
        due("deaf was", x.set(2, 3, 1), 1);
        due("deaf was", x.set(2, 3, 0), 1);
        due("deaf 2", x.set(2, 3, 2), OUTSIDE);
        due("deaf -1", x.set(2, 3, -1), OUTSIDE);
        due("size 0", x.set(2, 0, 0), OUTSIDE);
        due("size 10", x.set(2, 0, 10), OUTSIDE);
        due("cost 0", x.set(2, 1, 0), OUTSIDE);
        due("cost 10", x.set(2, 1, 10), OUTSIDE);
        due("what", x.set(2, 4, 1), OUTSIDE);
        due("what", x.set(2, -1, 1), OUTSIDE);
        due("unknown ahead", x.set(3, 4, 99), UNKNOWN);
        due("unknown", x.set(-1, 0, 1), UNKNOWN);
        x.test(1, true);
        due("deaf with tests", x.set(1, 3, 1), STATE);
        due("not deaf with tests", x.set(1, 3, 0), 0);
        due("outside ahead of state", x.set(1, 3, 2), OUTSIDE);
        due("another one", x.set(0, 3, 1), 0);
        x.untest();
        due("deaf, the tests are gone", x.set(1, 3, 1), 0);
        due("told", x.told(9), 3);
    }

    private static void trust() {
        promise = 5;
        BrokeWhere x = new BrokeWhere();
        int[] first = {0, 0, 1, 0, 0};
        int[] most = {5, 5, 9, 9, 9};
        for (int i = 0; i < 5; i++) {
            due("was " + i, x.trust(i, most[i]), first[i]);
            due("beyond " + i, x.trust(i, most[i] + 1), OUTSIDE);
            due("below " + i, x.trust(i, -1), OUTSIDE);
            due("was " + i, x.trust(i, 0), most[i]);
            due("was " + i, x.trust(i, 3), 0);
        }
        due("which", x.trust(-1, 0), OUTSIDE);
        due("which", x.trust(5, 0), OUTSIDE);
        due("which", x.trust(MAX, 0), OUTSIDE);
    }

    private static void test() {
        promise = 6;
        BrokeWhere x = Made.chain(1, 1);
        due("first", x.test(0, true), 0);
        due("second", x.test(1, false), 1);
        due("unknown", x.test(2, true), UNKNOWN);
        due("unknown", x.test(-1, true), UNKNOWN);
        x.version(1, -1, 1);
        x.set(2, 3, 1);
        due("deaf", x.test(2, true), STATE);
        for (int i = 2; i < 12; i++) {
            due("the same again", x.test(0, false), i);
        }
        due("full", x.test(0, false), FULL);
        due("deaf ahead of full", x.test(2, false), STATE);
        due("unknown ahead of full", x.test(3, false), UNKNOWN);
    }

    private static void tested() {
        promise = 7;
        BrokeWhere x = Made.chain(1, 1, 1);
        x.test(2, true);
        x.test(1, false);
        due("version", x.tested(0, 0), 2);
        due("passed", x.tested(0, 1), 1);
        due("version", x.tested(1, 0), 1);
        due("failed", x.tested(1, 1), 0);
        due("what", x.tested(1, 2), OUTSIDE);
        due("what", x.tested(1, -1), OUTSIDE);
        due("unknown", x.tested(2, 0), UNKNOWN);
        due("unknown ahead", x.tested(-1, 5), UNKNOWN);
        x.untest();
        due("gone", x.tested(1, 0), UNKNOWN);
    }

    private static void untest() {
        promise = 8;
        BrokeWhere x = Made.chain(1, 1);
        due("none", x.untest(), NO);
        x.test(0, true);
        x.test(1, true);
        due("last", x.untest(), 1);
        due("kept", x.tested(0, 0), 0);
        due("last", x.untest(), 0);
        due("none", x.untest(), NO);
    }

    private static void weight() {
        promise = 9;
        BrokeWhere x = Made.chain(2, 3, 5);
        due("one", x.weight(0, 1, 77), 3);
        due("one, other not looked at", x.weight(0, 1, 1), 3);
        due("no faith", x.weight(1, 0, 1), 0);
        x.trust(2, 4);
        x.trust(3, 7);
        x.trust(4, 9);
        due("one", x.weight(0, 2, -5), 20);
        due("both", x.weight(1, 0, 2), 70);
        due("mended", x.weight(2, 2, 1), 135);
        x.trust(0, 2);
        x.trust(1, 3);
        x.test(1, false);
        due("fails as it should", x.weight(0, 1, 0), 4 * 3 * 8);
        due("fails though it should pass", x.weight(0, 2, 0), 4 * 5 * 3);
        due("both fail", x.weight(1, 0, 1), 7 * 6 * 8);
        due("both pass", x.weight(1, 0, 2), 7 * 10 * 3);
        due("mended, not yet", x.weight(2, 0, 2), 9 * 10 * 8);
        due("mended by it", x.weight(2, 0, 1), 9 * 6 * 3);
        due("not in it", x.weight(2, 2, 1), 9 * 15 * 3);
        x.test(0, true);
        due("passes though it should fail", x.weight(0, 0, 0), 4 * 2 * 8 * 2);
        due("passes as it should", x.weight(0, 1, 0), 4 * 3 * 8 * 7);
        due("sort", x.weight(3, 0, 1), LOST - 2);
        due("sort", x.weight(-1, 9, 9), LOST - 2);
        due("unknown", x.weight(0, 3, 0), LOST - 1);
        due("unknown other", x.weight(1, 0, 3), LOST - 1);
        due("unknown other", x.weight(2, 0, -1), LOST - 1);
        due("both are one", x.weight(1, 1, 1), LOST - 1);
        due("both are one", x.weight(2, 1, 1), LOST - 1);
        due("not less", x.weight(1, 2, 1), LOST - 1);
        mostWeight();
    }

    private static void mostWeight() {
        BrokeWhere x = Made.chain(9, 9);
        x.trust(3, 9);
        for (int i = 0; i < 12; i++) {
            x.test(1, false);
        }
        due("the most", x.weight(1, 0, 1), 729000000000000L);
    }

    private static void odds() {
        promise = 10;
        BrokeWhere x = Made.chain(2, 3, 5);
        due("upper", x.odds(0, 0, 0, 0), 1);
        due("lower", x.odds(0, 0, 0, 1), 5);
        due("upper", x.odds(0, 1, 0, 0), 3);
        due("lower", x.odds(0, 1, 0, 1), 10);
        due("nothing", x.odds(1, 0, 1, 0), 0);
        due("nothing", x.odds(1, 0, 1, 1), 1);
        x.trust(3, 1);
        x.trust(4, 1);
        // 10 of ONE, 6 + 10 + 15 of BOTH, twice that of MENDED
        due("upper", x.odds(2, 2, 1, 0), 15);
        due("lower", x.odds(2, 2, 1, 1), 103);
        due("part", x.odds(0, 0, 0, 2), LOST - 2);
        due("part", x.odds(0, 0, 0, -1), LOST - 2);
        due("sort ahead", x.odds(3, 9, 9, 0), LOST - 2);
        due("unknown ahead of part", x.odds(0, 3, 0, 2), LOST - 1);
        due("unknown", x.odds(1, 1, 0, 0), LOST - 1);
        x.trust(2, 0);
        x.trust(3, 0);
        x.trust(4, 0);
        due("all are 0", x.odds(0, 0, 0, 0), 0);
        due("all are 0", x.odds(0, 0, 0, 1), 1);
    }

    private static void sorts() {
        promise = 11;
        BrokeWhere x = Made.chain(2, 3, 5);
        due("alone", x.sorts(0, 0), 1);
        due("alone", x.sorts(0, 1), 1);
        x.trust(3, 2);
        x.trust(4, 1);
        due("one", x.sorts(0, 0), 5);
        due("one", x.sorts(0, 1), 67);
        due("both", x.sorts(1, 0), 31);
        due("both", x.sorts(1, 1), 67);
        due("mended", x.sorts(2, 0), 31);
        due("sort", x.sorts(3, 0), LOST - 2);
        due("sort", x.sorts(-1, 0), LOST - 2);
        due("part", x.sorts(0, 2), LOST - 2);
        due("part", x.sorts(0, -1), LOST - 2);
        BrokeWhere empty = new BrokeWhere();
        due("no versions", empty.sorts(2, 0), 0);
        due("no versions", empty.sorts(2, 1), 1);
        BrokeWhere alone = Made.chain(7);
        alone.trust(3, 9);
        due("one version: no pair", alone.sorts(1, 1), 1);
        due("one version: no pair", alone.sorts(0, 0), 1);
    }

    private static void blame() {
        promise = 12;
        BrokeWhere x = Made.chain(2, 3, 5);
        due("one", x.blame(2, 0), 1);
        due("one", x.blame(2, 1), 2);
        x.trust(2, 0);
        x.trust(3, 1);
        // BOTH: 6, 10, 15
        due("both, the first one", x.blame(0, 0), 16);
        due("both", x.blame(0, 1), 31);
        due("both, the second one", x.blame(2, 0), 25);
        x.trust(3, 0);
        x.trust(4, 1);
        // MENDED: the one that mended is not to blame
        due("mended", x.blame(0, 0), 8);
        due("mended", x.blame(0, 1), 31);
        due("mended", x.blame(2, 0), 25);
        due("mended", x.blame(2, 1), 62);
        due("unknown", x.blame(3, 0), LOST - 1);
        due("unknown ahead", x.blame(-1, 7), LOST - 1);
        due("part", x.blame(0, 2), LOST - 2);
        x.trust(4, 0);
        due("all are 0", x.blame(0, 0), 0);
        due("all are 0", x.blame(0, 1), 1);
    }

    private static void guess() {
        promise = 13;
        BrokeWhere x = Made.chain(2, 5, 5);
        due("sort", x.guess(0), 0);
        due("the first of several", x.guess(1), 1);
        due("no other one", x.guess(2), NONE);
        due("what", x.guess(3), OUTSIDE);
        due("what", x.guess(-1), OUTSIDE);
        x.trust(4, 1);
        due("mended", x.guess(0), 2);
        due("mended", x.guess(1), 1);
        due("mended", x.guess(2), 2);
        x.trust(3, 1);
        due("both is ahead of mended", x.guess(0), 1);
        due("both", x.guess(1), 1);
        due("both", x.guess(2), 2);
        x.trust(2, 5);
        due("one is ahead of both", x.guess(0), 0);
        x.test(0, false);
        x.test(0, true);
        due("all weights are 0", x.guess(0), NO);
        due("outside ahead", x.guess(3), OUTSIDE);
        due("no versions", new BrokeWhere().guess(1), NO);
        BrokeWhere light = Made.chain(1, 1);
        light.trust(2, 0);
        light.trust(4, 1);
        due("the least weight there can be", light.guess(0), 2);
        due("the least weight there can be", light.guess(2), 1);
    }

    private static void hope() {
        promise = 14;
        BrokeWhere x = Made.chain(1, 2, 3, 4);
        // tests tell the truth: the most of those that it has and the most of the others, of 10
        due("first: 1 and 4", x.hope(0, 0), 1);
        due("first", x.hope(0, 1), 2);
        due("third: 3 and 4", x.hope(2, 0), 7);
        due("third", x.hope(2, 1), 10);
        due("last: 4 alone", x.hope(3, 0), 2);
        due("last", x.hope(3, 1), 5);
        x.trust(0, 4);
        x.trust(1, 1);
        // version 2: fails by 0 to 2, passes by 3: pass max(3*4, 4*9) = 36, fail max(3*6, 4*1) = 18, of 100
        due("with lies", x.hope(2, 0), 27);
        due("with lies", x.hope(2, 1), 50);
        due("part", x.hope(2, 2), LOST - 2);
        due("unknown", x.hope(4, 0), LOST - 1);
        x.set(2, 3, 1);
        due("deaf", x.hope(2, 0), LOST - 1);
        due("deaf ahead of part", x.hope(2, 9), LOST - 1);
        x.trust(2, 0);
        due("all are 0", x.hope(1, 0), 0);
        due("all are 0", x.hope(1, 1), 1);
    }

    private static void next() {
        promise = 15;
        nextOfPairs();
        BrokeWhere x = Made.chain(1, 1, 1, 1);
        due("halves", x.next(0), 1);
        x.set(1, 3, 1);
        due("halves, deaf", x.next(0), 0);
        x.set(2, 1, 2);
        x.set(0, 1, 3);
        due("halves, the least cost", x.next(0), 2);
        x.set(0, 1, 2);
        due("halves, the least number", x.next(0), 0);
        due("outside", x.next(2), OUTSIDE);
        due("outside", x.next(-1), OUTSIDE);
        BrokeWhere y = Made.chain(1, 2, 3, 4);
        due("hope", y.next(1), 2);
        y.set(2, 1, 9);
        due("hope ahead of cost", y.next(1), 2);
        BrokeWhere z = Made.apart(1, 1, 1);
        z.set(0, 1, 2);
        due("hope, the least cost", z.next(1), 1);
        z.trust(2, 0);
        due("hope, all are 0", z.next(1), 1);
        due("halves, all are 0", z.next(0), 1);
        for (int v = 0; v < 3; v++) {
            z.set(v, 3, 1);
        }
        due("none", z.next(0), NONE);
        due("none", z.next(1), NONE);
        due("no versions", new BrokeWhere().next(0), NONE);
    }

    private static void nextOfPairs() {
        BrokeWhere x = Made.chain(1, 1, 1, 1);
        x.trust(2, 0);
        x.trust(3, 1);
        // BOTH, six stories: version 1 should fail by one of them, version 2 by three, version 3 by all
        due("halves of BOTH", x.next(0), 2);
        due("hope of BOTH, 1 and 1 of 6", x.hope(1, 1), 3);
        due("hope of BOTH, none by which version 0 fails", x.hope(0, 1), 6);
        x.trust(3, 0);
        x.trust(4, 1);
        // MENDED, twelve: version 0 fails by 3 of them (0 and another one), version 1 by 4, version 2 by 3
        due("halves of MENDED", x.next(0), 1);
        due("hope of MENDED, none by which version 3 fails", x.hope(3, 1), 12);
    }

    private static void worst() {
        promise = 16;
        BrokeWhere x = Made.chain(1, 1, 1, 1, 1);
        due("five in a row", x.worst(31, 0), 3);
        due("five in a row: 1 and 4 would be too many", x.worst(31, 1), 0);
        due("four", x.worst(30, 0), 2);
        due("four", x.worst(30, 1), 2);
        due("two", x.worst(17, 0), 1);
        due("two", x.worst(17, 1), 0);
        due("one", x.worst(4, 0), 0);
        due("one", x.worst(4, 1), NONE);
        due("empty", x.worst(0, 0), 0);
        due("empty", x.worst(0, 1), NONE);
        due("bits of no change", x.worst(32, 0), OUTSIDE);
        due("bits of no change", x.worst(-1, 0), OUTSIDE);
        due("bits of no change", x.worst(MIN, 0), OUTSIDE);
        due("what", x.worst(31, 2), OUTSIDE);
        due("what", x.worst(31, -1), OUTSIDE);
        x.test(0, true);
        x.trust(0, 5);
        due("tests and lies are not looked at", x.worst(31, 0), 3);
        x.set(2, 3, 1);
        due("deaf: three are left", x.worst(30, 0), 2);
        due("deaf", x.worst(30, 1), 1);
        due("deaf", x.worst(12, 0), 0);
        due("deaf", x.worst(12, 1), NONE);
        x.version(4, -1, 1);
        due("another version", x.worst(63, 0), 3);
        BrokeWhere y = Made.apart(1, 1, 1, 1, 1, 1, 1, 1, 1, 1, 1, 1);
        due("each alone", y.worst(4095, 0), 11);
        due("each alone", y.worst(4095, 1), 0);
    }

    private static void mean() {
        promise = 17;
        BrokeWhere x = Made.chain(1, 2, 3, 4);
        // 3 | 2 | 1, 0: each test costs all sizes that are left: 10 + 6 + 3; by halves 10 + 3 + 7
        due("sum", x.mean(15, 0), 19);
        due("start", x.mean(15, 1), 2);
        due("two", x.mean(9, 0), 5);
        x.set(2, 1, 9);
        // version 2 alone tells 2 and 3 apart: as late as can be: 10 + 9 * 7 + 3
        due("dear", x.mean(15, 0), 10 + 63 + 3);
        due("dear", x.mean(15, 1), 1);
        x.set(2, 1, 1);
        x.set(0, 0, 9);
        due("sizes: 18, then 9, then 5", x.mean(15, 0), 18 + 9 + 5);
        due("sizes", x.mean(15, 1), 0);
        due("one", x.mean(8, 0), 0);
        due("one", x.mean(8, 1), NONE);
        due("empty", x.mean(0, 0), 0);
        due("bits of no change", x.mean(16, 0), OUTSIDE);
        due("bits of no change", x.mean(-8, 0), OUTSIDE);
        due("what", x.mean(15, 2), OUTSIDE);
        due("what", x.mean(15, -1), OUTSIDE);
        x.set(0, 3, 1);
        due("deaf", x.mean(3, 0), 0);
        due("deaf", x.mean(3, 1), NONE);
        due("deaf: 18 and then 7", x.mean(15, 0), 18 + 7);
    }

    private static void twins() {
        promise = 18;
        BrokeWhere x = Made.chain(1, 1, 1);
        x.version(0, -1, 1);
        due("told apart", x.twins(1), 2);
        x.set(1, 3, 1);
        due("deaf", x.twins(1), 6);
        due("deaf", x.twins(2), 6);
        due("another one", x.twins(3), 8);
        x.set(2, 3, 1);
        due("none has it", x.twins(1), 6);
        x.set(3, 3, 1);
        due("none of them is in what is left", x.twins(1), 14);
        x.set(0, 3, 1);
        due("all", x.twins(0), 15);
        due("unknown", x.twins(4), UNKNOWN);
        due("unknown", x.twins(-1), UNKNOWN);
    }

    private static void say() {
        promise = 19;
        BrokeWhere x = new BrokeWhere();
        due("32", x.say(32), OUTSIDE);
        due("127", x.say(127), OUTSIDE);
        due("below", x.say(-60), OUTSIDE);
        due("33", x.say(33), 1);
        due("126", x.say(126), 2);
        for (int i = 3; i <= 40; i++) {
            due("sign", x.say('x'), i);
        }
        due("full", x.say('x'), FULL);
        due("outside ahead of full", x.say(32), OUTSIDE);
        due("count", x.told(2), 40);
    }

    private static void wipe() {
        promise = 20;
        BrokeWhere x = new BrokeWhere();
        due("none", x.wipe(), 0);
        Made.tell(x, "!a");
        Made.say(x, "abc");
        due("three", x.wipe(), 3);
        due("none are left", x.told(2), 0);
        due("the truth stays", x.told(3), 2);
        due("the truth stays", x.fails(0, 0), 1);
        due("none", x.wipe(), 0);
    }

    private static int faultOf(String text) {
        BrokeWhere x = new BrokeWhere();
        Made.say(x, text);
        return x.fault();
    }

    private static void fault() {
        promise = 21;
        due("empty", faultOf(""), 0);
        due("a", faultOf("a"), NONE);
        due("l", faultOf("l"), NONE);
        due("m", faultOf("m"), 0);
        due("A", faultOf("A"), 0);
        due("ab", faultOf("ab"), 1);
        due("!", faultOf("!"), 1);
        due("&a", faultOf("&a"), 2);
        due("|a!", faultOf("|a!"), 3);
        due("&ab", faultOf("&ab"), NONE);
        due("&abc", faultOf("&abc"), 3);
        due("&a~b", faultOf("&a~b"), 2);
        due("|&ab!c", faultOf("|&ab!c"), NONE);
        due("9 within", faultOf("!!!!!!!!!a"), NONE);
        due("10 within", faultOf("!!!!!!!!!!a"), 9);
        due("10 within, &", faultOf("!!!!!!!!!&ab"), 9);
        due("9 within, &", faultOf("!!!!!!!!&ab"), NONE);
        due("behind a deep one", faultOf("&!!!!!!!!a!!!!!!!!b"), NONE);
        due("the second is too deep", faultOf("&!!!!!!!!a!!!!!!!!!b"), 18);
        due("many texts", faultOf("|".repeat(6) + "a".repeat(7)), NONE);
        due("more must come", faultOf("&".repeat(9)), 9);
        due("the tenth", faultOf("&".repeat(10)), 9);
    }

    private static void truth() {
        promise = 22;
        BrokeWhere x = new BrokeWhere();
        due("empty", x.truth(), NO);
        Made.say(x, "&a");
        due("more must come", x.truth(), NO);
        due("they stay", x.told(2), 2);
        due("no truth", x.told(3), 0);
        Made.say(x, "b");
        due("told", x.truth(), 3);
        due("signs are empty", x.told(2), 0);
        due("signs of it", x.told(3), 3);
        due("both", x.fails(3, 0), 1);
        due("not both", x.fails(2, 0), 0);
        Made.say(x, "z");
        due("fault", x.truth(), NO);
        due("the old one stays", x.fails(3, 0), 1);
        x.wipe();
        Made.say(x, "!l");
        due("another one", x.truth(), 2);
        due("another one", x.fails(2047, 0), 1);
        due("another one", x.fails(2048, 0), 0);
        due("empty again", x.truth(), NO);
    }

    private static void fails() {
        promise = 23;
        BrokeWhere x = new BrokeWhere();
        due("sound without versions", x.fails(4095, 1), 1);
        due("no truth", x.fails(0, 0), STATE);
        due("outside ahead", x.fails(4096, 0), OUTSIDE);
        due("outside", x.fails(-1, 1), OUTSIDE);
        due("what", x.fails(0, 2), OUTSIDE);
        due("what", x.fails(0, -1), OUTSIDE);
        for (int c = 0; c < 12; c++) {
            Made.tell(x, "" + (char) ('a' + c));
            due("letter", x.fails(1 << c, 0), 1);
            due("all others", x.fails(4095 ^ 1 << c, 0), 0);
        }
        Made.tell(x, "|&agl");
        due("a and g", x.fails(65, 0), 1);
        due("a alone", x.fails(1, 0), 0);
        due("g alone", x.fails(64, 0), 0);
        due("l", x.fails(2048, 0), 1);
        Made.tell(x, "&!ab");
        due("not a, b", x.fails(2, 0), 1);
        due("a, b", x.fails(3, 0), 0);
        due("neither", x.fails(0, 0), 0);
        BrokeWhere y = Made.chain(1, 1, 1);
        y.set(2, 2, 3);
        y.set(1, 2, 1);
        due("all", y.fails(7, 1), 1);
        due("empty", y.fails(0, 1), 1);
        due("one of two needs", y.fails(6, 1), 0);
        due("one of two needs", y.fails(5, 1), 0);
        due("by another", y.fails(2, 1), 0);
        due("changes that are not there", y.fails(8 + 1, 1), 1);
    }

    private static void play() {
        promise = 24;
        BrokeWhere x = Made.chain(1, 1, 1, 1);
        due("no truth", x.play(5), STATE);
        due("outside ahead", x.play(0), OUTSIDE);
        due("outside", x.play(11), OUTSIDE);
        Made.tell(x, "c");
        x.test(0, false);
        due("a, b, then c are tested", x.play(10), 3);
        due("first test", x.tested(0, 0), 0);
        due("it tells the truth", x.tested(0, 1), 1);
        due("the guess", x.guess(1), 2);
        due("odds are enough at once", x.play(2), 0);
        due("the tests went", x.told(1), 0);
        due("a third is more than three tenths", x.play(3), 1);
        x.trust(0, 5);
        x.trust(1, 5);
        due("tests that tell nothing", x.play(10), 12);
        for (int v = 0; v < 4; v++) {
            x.set(v, 3, 1);
        }
        due("all but the one that has tests", x.told(9), 14);
        while (x.untest() > 0) {
            due("tests go", x.told(3), 1);
        }
        x.set(0, 3, 1);
        due("no version can be tested", x.play(5), NO);
        due("outside ahead of no", x.play(0), OUTSIDE);
        BrokeWhere y = new BrokeWhere();
        Made.tell(y, "a");
        due("no versions", y.play(1), NO);
        playAgainstAll();
    }

    private static void playAgainstAll() {
        BrokeWhere x = Made.chain(1, 1);
        Made.tell(x, "b");
        x.trust(2, 0);
        due("all weights are 0", x.play(1), 12);
        due("of the least number", x.tested(11, 0), 0);
        x.trust(2, 1);
        x.set(0, 1, 2);
        due("the cheaper one", x.play(10), 1);
        due("only version 0 parts them", x.tested(0, 0), 0);
        due("exactly the limit is enough", x.play(5), 0);
        due("less than the limit", x.play(6), 1);
    }

    private static void out() {
        promise = 25;
        BrokeWhere x = Made.chain(2, 3, 1, 3);
        due("no truth", x.out(3, 0), STATE);
        due("outside ahead", x.out(3, 2), OUTSIDE);
        due("unknown ahead", x.out(4, 2), UNKNOWN);
        Made.tell(x, "&bc");
        due("the least sum", x.out(3, 0), 4);
        due("the least sum", x.out(3, 1), 1);
        due("nothing to take out", x.out(1, 0), 0);
        due("nothing to take out", x.out(1, 1), 0);
        Made.tell(x, "&bd");
        due("the least as bits", x.out(3, 0), 2);
        x.set(2, 2, 2);
        due("2 needs it: the other one", x.out(3, 0), 8);
        x.set(3, 2, 4);
        due("one alone", x.out(3, 0), 8);
        Made.tell(x, "b");
        due("all that need it", x.out(3, 0), 14);
        due("their sizes", x.out(3, 1), 7);
        due("of another version", x.out(2, 0), 6);
        Made.tell(x, "!d");
        due("nothing does", x.out(2, 0), NO);
        due("nothing does", x.out(2, 1), NO);
        due("it passes", x.out(3, 0), 0);
        due("unknown", x.out(-1, 0), UNKNOWN);
        due("outside", x.out(0, -1), OUTSIDE);
    }

    private static void core() {
        promise = 26;
        BrokeWhere x = Made.chain(1, 1, 1, 1);
        due("no truth", x.core(3, 0), STATE);
        due("unknown ahead", x.core(4, -1), UNKNOWN);
        due("unknown", x.core(-1, -1), UNKNOWN);
        Made.tell(x, "|&abd");
        due("two", x.core(3, -1), 2);
        due("first", x.core(3, 0), 3);
        due("second", x.core(3, 1), 8);
        due("no more", x.core(3, 2), NONE);
        due("below", x.core(3, -2), NONE);
        due("far", x.core(3, MIN), NONE);
        due("far", x.core(3, MAX), NONE);
        due("another version", x.core(2, -1), 1);
        due("none", x.core(0, -1), 0);
        due("none", x.core(0, 0), NONE);
        x.set(3, 2, 2);
        due("sound ones alone", x.core(3, 1), 10);
        x.set(3, 2, 1);
        x.set(1, 2, 1);
        due("9 and 3", x.core(3, -1), 2);
        due("3", x.core(3, 0), 3);
        due("9", x.core(3, 1), 9);
        x.set(3, 2, 3);
        due("it has a part that fails", x.core(3, -1), 1);
        Made.tell(x, "!a");
        due("the empty one", x.core(3, -1), 1);
        due("the empty one", x.core(3, 0), 0);
        Made.tell(x, "&!bc");
        due("c without b", x.core(3, 0), 4);
        x.set(2, 2, 2);
        due("c needs b", x.core(3, -1), 0);
        Made.tell(x, "b");
        due("b needs a", x.core(3, 0), 3);
        coresAcross();
        coresBelowSetsThatPass();
    }

    /** A part that fails counts, though sets between the two do not fail. */
    private static void coresBelowSetsThatPass() {
        BrokeWhere x = Made.chain(1, 1, 1, 1, 1, 1, 1, 1, 1, 1, 1, 1);
        Made.tell(x, "|&ab&!a!b");
        due("none or both of a, b", x.core(11, -1), 1);
        due("none of a, b", x.core(11, 0), 0);
        Made.tell(x, "|&gh&!g!h");
        due("none or both of g, h", x.core(11, -1), 1);
        Made.tell(x, "&l|&fg&!f!g");
        due("l, with none or both of f, g", x.core(11, -1), 1);
        due("l", x.core(11, 0), 2048);
    }

    private static void coresAcross() {
        BrokeWhere x = Made.chain(1, 1, 1, 1, 1, 1, 1, 1, 1, 1, 1, 1);
        Made.tell(x, "|&bh|&gl&fk");
        due("across", x.core(11, -1), 3);
        due("bh", x.core(11, 0), 2 + 128);
        due("fk", x.core(11, 1), 32 + 1024);
        due("gl", x.core(11, 2), 64 + 2048);
        due("of less", x.core(10, -1), 2);
        Made.tell(x, "|l|g|a|b&cd");
        due("five", x.core(11, -1), 5);
        due("the last one", x.core(11, 4), 2048);
        due("the third one", x.core(11, 2), 12);
    }

    private static void told() {
        promise = 27;
        BrokeWhere x = Made.chain(3, 4);
        x.test(0, true);
        Made.say(x, "&ab");
        x.truth();
        Made.say(x, "xy");
        int[] trusts = {5, 4, 9, 8, 7};
        for (int i = 0; i < 5; i++) {
            x.trust(i, trusts[i]);
            due("trust", x.told(4 + i), trusts[i]);
        }
        x.set(1, 1, 6);
        x.set(1, 2, 1);
        x.set(1, 3, 1);
        int[] all = {2, 1, 2, 3};
        for (int i = 0; i < 4; i++) {
            due("count " + i, x.told(i), all[i]);
        }
        due("deaf", x.told(9), 2);
        due("size", x.told(10), 3);
        due("size", x.told(11), 4);
        due("cost", x.told(30), 1);
        due("cost", x.told(31), 6);
        due("needs", x.told(50), 0);
        due("needs", x.told(51), 1);
        int[] missing = {12, 21, 32, 41, 52, 61};
        for (int what : missing) {
            due("no such version " + what, x.told(what), NONE);
        }
        int[] outside = {-1, 22, 29, 42, 49, 62, MIN, MAX};
        for (int what : outside) {
            due("outside " + what, x.told(what), OUTSIDE);
        }
    }
}
