/** The document's part 1, sentence by sentence: the boundaries that it names for versions and tests. */
public final class VersionsEdgeTest {
    private static final int MIN = Edge.MIN, MAX = Edge.MAX;
    private static final int UNKNOWN = Edge.UNKNOWN, OUTSIDE = Edge.OUTSIDE, STATE = Edge.STATE;
    private static final int FULL = Edge.FULL, NO = Edge.NO;
    private static final int MISS = 0, FALSE = 1, FAITH_ONE = 2, FAITH_MENDED = 4;
    private static final Edge EDGE = new Edge("VersionsEdgeTest");

    public static void main(String[] args) {
        versions();
        whatVersionsAre();
        needs();
        tests();
        EDGE.end();
    }

    private static void versions() {
        EDGE.words("No VERSIONS, TESTS, no TRUTH.");
        BrokeWhere fresh = new BrokeWhere();
        for (int what = 0; what < 4; what++) {
            EDGE.due("told(" + what + ")", fresh.told(what), 0);
        }
        EDGE.due("has(0)", fresh.has(0), UNKNOWN);
        EDGE.due("tested(0, 0)", fresh.tested(0, 0), UNKNOWN);
        EDGE.due("fails(0, 0)", fresh.fails(0, 0), STATE);
        EDGE.words("VERSIONS, 12 at most, numbered from 0 on");
        BrokeWhere x = new BrokeWhere();
        for (int i = 0; i < 12; i++) {
            EDGE.due("version", x.version(-1, -1, 1), i);
            EDGE.due("told(0)", x.told(0), i + 1);
        }
        EDGE.due("the thirteenth", x.version(-1, -1, 1), FULL);
        EDGE.due("the thirteenth, again", x.version(11, -1, 1), FULL);
        EDGE.due("told(0)", x.told(0), 12);
        EDGE.due("has(11)", x.has(11), 2048);
        EDGE.due("has(12)", x.has(12), UNKNOWN);
        EDGE.words("on one or two VERSIONS ahead of it, or on none");
        BrokeWhere y = new BrokeWhere();
        EDGE.due("on itself", y.version(0, -1, 1), UNKNOWN);
        EDGE.due("on none", y.version(-1, -1, 1), 0);
        EDGE.due("on one that is to be", y.version(1, -1, 1), UNKNOWN);
        EDGE.due("on one and itself", y.version(0, 1, 1), UNKNOWN);
        EDGE.due("on one", y.version(0, -1, 1), 1);
        EDGE.due("on two", y.version(0, 1, 1), 2);
        EDGE.due("on two, the other way round", y.version(2, 0, 1), 3);
        EDGE.words("UNKNOWN: also both are one, or one -1 ahead of another one");
        EDGE.due("both are one", y.version(0, 0, 1), UNKNOWN);
        EDGE.due("both are the last one", y.version(3, 3, 1), UNKNOWN);
        EDGE.due("-1 ahead of the first", y.version(-1, 0, 1), UNKNOWN);
        EDGE.due("-1 ahead of the last", y.version(-1, 3, 1), UNKNOWN);
        EDGE.due("both -1", y.version(-1, -1, 1), 4);
        EDGE.due("-1 behind", y.version(4, -1, 1), 5);
        EDGE.due("-2 for -1", y.version(-2, -2, 1), UNKNOWN);
        EDGE.due("-2 for -1", y.version(4, -2, 1), UNKNOWN);
    }

    private static void whatVersionsAre() {
        EDGE.words("It HAS its CHANGE, and all that those have.");
        BrokeWhere x = Made.apart(1, 1);
        x.version(0, -1, 1);
        x.version(1, 2, 1);
        x.version(3, 0, 1);
        EDGE.due("on none", x.has(1), 2);
        EDGE.due("on one: not what is beside it", x.has(2), 5);
        EDGE.due("on two", x.has(3), 15);
        EDGE.due("one of the two has the other", x.has(4), 31);
        EDGE.due("made on, it gets nothing", x.has(0), 1);
        BrokeWhere ladder = Made.chain(Made.times(11, 1));
        ladder.version(9, 10, 1);
        EDGE.due("the twelfth", ladder.has(11), 4095);
        BrokeWhere aside = Made.chain(Made.times(11, 1));
        aside.version(0, -1, 1);
        EDGE.due("the twelfth, on the first", aside.has(11), 2049);
        EDGE.words("it can not be built, so not tested (not at first)");
        BrokeWhere y = Made.chain(Made.times(12, 1));
        EDGE.due("told(9)", y.told(9), 0);
        EDGE.due("was", y.set(11, 3, 1), 0);
        EDGE.due("told(9)", y.told(9), 2048);
        EDGE.due("test of it", y.test(11, false), STATE);
        EDGE.due("was", y.set(11, 3, 0), 1);
        EDGE.due("test of it", y.test(11, false), 0);
        EDGE.words("SIZE of a CHANGE (1 to 9)");
        EDGE.due("0", x.version(-1, -1, 0), OUTSIDE);
        EDGE.due("10", x.version(-1, -1, 10), OUTSIDE);
        EDGE.due("1", x.version(-1, -1, 1), 5);
        EDGE.due("9", x.version(-1, -1, 9), 6);
        EDGE.due("was, to 9", x.set(5, 0, 9), 1);
        EDGE.due("was, to 1", x.set(5, 0, 1), 9);
        EDGE.due("0", x.set(5, 0, 0), OUTSIDE);
        EDGE.due("10", x.set(5, 0, 10), OUTSIDE);
        EDGE.due("was", x.set(5, 0, 5), 1);
        EDGE.words("COST of a VERSION (1 to 9; 1 at first)");
        EDGE.due("was, to 9", x.set(6, 1, 9), 1);
        EDGE.due("was, to 1", x.set(6, 1, 1), 9);
        EDGE.due("0", x.set(6, 1, 0), OUTSIDE);
        EDGE.due("10", x.set(6, 1, 10), OUTSIDE);
        EDGE.due("was", x.set(6, 1, 2), 1);
        EDGE.words("STATE: DEAF, but there are TESTS of it.");
        EDGE.due("a test of it", y.set(11, 3, 1), STATE);
        EDGE.due("it stays as it was", y.set(11, 3, 0), 0);
        EDGE.due("no test of it", y.set(10, 3, 1), 0);
        EDGE.due("other rows", y.set(11, 1, 2), 1);
        y.untest();
        EDGE.due("the test is gone", y.set(11, 3, 1), 0);
    }

    private static void needs() {
        EDGE.words("NEEDS of a CHANGE: CHANGES ahead of it (bits; none at first)");
        BrokeWhere x = Made.apart(Made.times(12, 1));
        for (int c = 0; c < 12; c++) {
            int ahead = (1 << c) - 1;
            EDGE.due("was, to all ahead of " + c, x.set(c, 2, ahead), 0);
            EDGE.due("itself", x.set(c, 2, 1 << c), OUTSIDE);
            EDGE.due("itself, and all ahead", x.set(c, 2, ahead | 1 << c), OUTSIDE);
            EDGE.due("below", x.set(c, 2, -1), OUTSIDE);
            EDGE.due("far", x.set(c, 2, MIN), OUTSIDE);
            EDGE.due("far", x.set(c, 2, MAX), OUTSIDE);
            EDGE.due("was, to none", x.set(c, 2, 0), ahead);
        }
    }

    private static void tests() {
        EDGE.words("TESTS, 12 at most, numbered from 0 on");
        BrokeWhere x = Made.chain(1, 1);
        for (int t = 0; t < 12; t++) {
            EDGE.due("test", x.test(t % 2, t % 3 == 0), t);
            EDGE.due("told(1)", x.told(1), t + 1);
        }
        EDGE.due("the thirteenth", x.test(0, true), FULL);
        EDGE.due("told(1)", x.told(1), 12);
        EDGE.due("the last one", x.tested(11, 0), 1);
        EDGE.due("beyond", x.tested(12, 0), UNKNOWN);
        EDGE.words("of a VERSION that is not DEAF (as it is told) it passed or failed");
        for (int t = 0; t < 12; t++) {
            EDGE.due("the version", x.tested(t, 0), t % 2);
            EDGE.due("passed", x.tested(t, 1), t % 3 == 0 ? 1 : 0);
        }
        EDGE.words("The last TEST goes: how many are left. NO: there is none.");
        for (int left = 11; left >= 0; left--) {
            EDGE.due("untest", x.untest(), left);
            EDGE.due("it is gone", x.tested(left, 0), UNKNOWN);
        }
        EDGE.due("untest", x.untest(), NO);
        EDGE.due("untest", x.untest(), NO);
        EDGE.due("numbered from 0 on again", x.test(1, true), 0);
        EDGE.due("the new one", x.tested(0, 0), 1);
        EDGE.due("the new one", x.tested(0, 1), 1);
        EDGE.words("(0 to 5 each; 0 at first)");
        for (int which = MISS; which <= FALSE; which++) {
            EDGE.due("-1", x.trust(which, -1), OUTSIDE);
            EDGE.due("6", x.trust(which, 6), OUTSIDE);
            EDGE.due("was, to 5", x.trust(which, 5), 0);
            EDGE.due("was, to 0", x.trust(which, 0), 5);
        }
        EDGE.words("Each SORT of them has a FAITH (0 to 9; 1, 0, 0 at first).");
        for (int which = FAITH_ONE; which <= FAITH_MENDED; which++) {
            EDGE.due("-1", x.trust(which, -1), OUTSIDE);
            EDGE.due("10", x.trust(which, 10), OUTSIDE);
            EDGE.due("was, to 9", x.trust(which, 9), which == FAITH_ONE ? 1 : 0);
            EDGE.due("was, to 0", x.trust(which, 0), 9);
        }
        EDGE.words("0 MISS, 1 FALSE, 2 to 4 FAITH of SORTS: which it was.");
        EDGE.due("below", x.trust(-1, 0), OUTSIDE);
        EDGE.due("beyond", x.trust(5, 0), OUTSIDE);
    }
}
