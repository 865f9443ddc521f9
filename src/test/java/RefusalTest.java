import java.util.function.Supplier;
import java.util.function.ToLongFunction;

/**
 * 'Calls that are refused answer, the first of these that fits: UNKNOWN, OUTSIDE, STATE, NO, FULL. They change
 * nothing.' Every refusal of every call, alone and where several fit, and what the object holds behind it.
 */
public final class RefusalTest {
    private static final int UNKNOWN = -1, OUTSIDE = -2, STATE = -3, FULL = -4, NO = -5;
    private static final long LOST = -1000000000000000000L;
    private static final int[] NO_VERSIONS = {-1, -2, 5, 6, 11, 12, 31, 32, 64, Integer.MIN_VALUE, Integer.MAX_VALUE};
    private static final int[] NO_PARTS = {-1, 2, 3, 32, 256, Integer.MIN_VALUE, Integer.MAX_VALUE};
    private static final Check CHECK = new Check("RefusalTest");

    public static void main(String[] args) {
        unknownVersions();
        unknownPairs();
        unknownTests();
        outsideOfSet();
        outsideParts();
        outsideSets();
        outsideOthers();
        states();
        noes();
        fulls();
        unknownAheadOfAll();
        outsideAheadOfStateNoAndFull();
        stateAheadOfNoAndFull();
        askingChangesNothing();
        CHECK.end();
    }

    // ---- the objects, none of which a refused call may change

    private static BrokeWhere empty() {
        return new BrokeWhere();
    }

    /** Five versions, 2 and 3 joined by 4; 1 is deaf, 0 and 4 have tests; a truth, and signs with a fault. */
    private static BrokeWhere rich() {
        BrokeWhere x = untold();
        Made.tell(x, "&ac");
        Made.say(x, "|a");
        return x;
    }

    /** The same, no truth told; the signs are a text. */
    private static BrokeWhere untold() {
        BrokeWhere x = Made.chain(3, 4, 5);
        x.version(0, -1, 6);
        x.version(2, 3, 7);
        x.set(1, 3, 1);
        x.set(4, 1, 8);
        x.set(4, 2, 5);
        x.test(0, true);
        x.test(4, false);
        x.test(4, true);
        for (int i = 0; i < 5; i++) {
            x.trust(i, i + 1);
        }
        Made.say(x, "|ab");
        return x;
    }

    /** Twelve versions, of which the last one is deaf, twelve tests, forty signs, a truth. */
    private static BrokeWhere full() {
        BrokeWhere x = Made.chain(Made.times(12, 2));
        x.set(11, 3, 1);
        Made.test(x, 5, false, 12);
        Made.tell(x, "f");
        Made.say(x, "!".repeat(40));
        return x;
    }

    /** A truth by which nothing passes, no version that can be tested. */
    private static BrokeWhere deaf() {
        BrokeWhere x = Made.chain(1, 2);
        x.set(0, 3, 1);
        x.set(1, 3, 1);
        Made.tell(x, "|a!a");
        return x;
    }

    /** The same without a truth. */
    private static BrokeWhere deafUntold() {
        BrokeWhere x = Made.chain(1, 2);
        x.set(0, 3, 1);
        x.set(1, 3, 1);
        return x;
    }

    /** Tests that no story stands. */
    private static BrokeWhere weightless() {
        BrokeWhere x = Made.chain(1, 2);
        x.test(0, true);
        x.test(0, false);
        return x;
    }

    /** The call is refused so, and its object holds just what one without that call holds. */
    private static void refused(String name, Supplier<BrokeWhere> made, ToLongFunction<BrokeWhere> call, long due) {
        BrokeWhere x = made.get();
        BrokeWhere same = made.get();
        CHECK.due(name, call.applyAsLong(x), due);
        CHECK.so(name + " changes nothing", Made.all(x).equals(Made.all(same)));
        // what the signs are shows when they become the truth
        CHECK.due(name + ", then truth()", x.truth(), same.truth());
        for (int set = 0; set < 4096; set += 273) {
            CHECK.due(name + ", then fails()", x.fails(set, 0), same.fails(set, 0));
        }
        CHECK.due(name + ", then guess(1)", x.guess(1), same.guess(1));
    }

    // ---- each refusal alone

    private static void unknownVersions() {
        for (int v : NO_VERSIONS) {
            String of = "(" + v + ")";
            if (v != -1) {
                refused("version on" + of, RefusalTest::rich, x -> x.version(v, -1, 1), UNKNOWN);
                refused("version, other" + of, RefusalTest::rich, x -> x.version(0, v, 1), UNKNOWN);
            }
            refused("version on two" + of, RefusalTest::rich, x -> x.version(v, 0, 1), UNKNOWN);
            refused("has" + of, RefusalTest::rich, x -> x.has(v), UNKNOWN);
            for (int what = 0; what < 4; what++) {
                int row = what;
                refused("set" + of + " " + what, RefusalTest::rich, x -> x.set(v, row, 1), UNKNOWN);
            }
            refused("test" + of, RefusalTest::rich, x -> x.test(v, true), UNKNOWN);
            refused("blame" + of, RefusalTest::rich, x -> x.blame(v, 0), LOST - 1);
            refused("hope" + of, RefusalTest::rich, x -> x.hope(v, 0), LOST - 1);
            refused("twins" + of, RefusalTest::rich, x -> x.twins(v), UNKNOWN);
            refused("out" + of, RefusalTest::rich, x -> x.out(v, 0), UNKNOWN);
            refused("core" + of, RefusalTest::rich, x -> x.core(v, -1), UNKNOWN);
        }
        for (int v = 0; v < 5; v++) {
            int both = v;
            refused("both are one", RefusalTest::rich, x -> x.version(both, both, 1), UNKNOWN);
        }
        refused("on itself", RefusalTest::empty, x -> x.version(0, -1, 1), UNKNOWN);
        refused("hope of a deaf one", RefusalTest::rich, x -> x.hope(1, 0), LOST - 1);
        refused("hope of a deaf one", RefusalTest::rich, x -> x.hope(1, 1), LOST - 1);
    }

    private static void unknownPairs() {
        for (int v : NO_VERSIONS) {
            String of = "(" + v + ")";
            for (int s = 0; s < 3; s++) {
                int sort = s;
                refused("weight" + of, RefusalTest::rich, x -> x.weight(sort, v, 1), LOST - 1);
                refused("odds" + of, RefusalTest::rich, x -> x.odds(sort, v, 1, 1), LOST - 1);
                if (sort > 0) {
                    refused("weight, other" + of, RefusalTest::rich, x -> x.weight(sort, 0, v), LOST - 1);
                    refused("odds, other" + of, RefusalTest::rich, x -> x.odds(sort, 0, v, 1), LOST - 1);
                }
            }
        }
        for (int a = 0; a < 5; a++) {
            int first = a;
            refused("weight, both are one", RefusalTest::rich, x -> x.weight(1, first, first), LOST - 1);
            refused("weight, both are one", RefusalTest::rich, x -> x.weight(2, first, first), LOST - 1);
            refused("odds, both are one", RefusalTest::rich, x -> x.odds(1, first, first, 0), LOST - 1);
            refused("odds, both are one", RefusalTest::rich, x -> x.odds(2, first, first, 0), LOST - 1);
            for (int b = 0; b < a; b++) {
                int second = b;
                refused("weight, not less", RefusalTest::rich, x -> x.weight(1, first, second), LOST - 1);
                refused("odds, not less", RefusalTest::rich, x -> x.odds(1, first, second, 0), LOST - 1);
            }
        }
    }

    private static void unknownTests() {
        int[] tests = {-1, -2, 3, 4, 11, 12, 13, 32, Integer.MIN_VALUE, Integer.MAX_VALUE};
        for (int t : tests) {
            refused("tested(" + t + ", 0)", RefusalTest::rich, x -> x.tested(t, 0), UNKNOWN);
            refused("tested(" + t + ", 1)", RefusalTest::rich, x -> x.tested(t, 1), UNKNOWN);
        }
        refused("tested(0, 0)", RefusalTest::empty, x -> x.tested(0, 0), UNKNOWN);
        refused("tested(12, 0)", RefusalTest::full, x -> x.tested(12, 0), UNKNOWN);
    }

    private static void outsideOfSet() {
        int[] sizes = {0, 10, -1, -9, 11, 16, 257, Integer.MIN_VALUE, Integer.MAX_VALUE};
        for (int v : sizes) {
            refused("version of size " + v, RefusalTest::rich, x -> x.version(0, -1, v), OUTSIDE);
            refused("version of size " + v, RefusalTest::empty, x -> x.version(-1, -1, v), OUTSIDE);
            refused("set size " + v, RefusalTest::rich, x -> x.set(2, 0, v), OUTSIDE);
            refused("set cost " + v, RefusalTest::rich, x -> x.set(2, 1, v), OUTSIDE);
        }
        int[] needs = {4, 5, 7, 8, 4096, -1, -4, Integer.MIN_VALUE, Integer.MIN_VALUE | 1, Integer.MAX_VALUE};
        for (int v : needs) {
            refused("set needs " + v, RefusalTest::rich, x -> x.set(2, 2, v), OUTSIDE);
        }
        refused("set needs of the first", RefusalTest::rich, x -> x.set(0, 2, 1), OUTSIDE);
        refused("set needs of the last: itself", RefusalTest::full, x -> x.set(11, 2, 2048), OUTSIDE);
        refused("set needs of the last: beyond", RefusalTest::full, x -> x.set(11, 2, 4096), OUTSIDE);
        for (int v : NO_PARTS) {
            refused("set deaf " + v, RefusalTest::rich, x -> x.set(2, 3, v), OUTSIDE);
        }
        int[] whats = {-1, 4, 5, 35, Integer.MIN_VALUE, Integer.MAX_VALUE};
        for (int what : whats) {
            refused("set " + what, RefusalTest::rich, x -> x.set(2, what, 1), OUTSIDE);
            refused("set " + what, RefusalTest::rich, x -> x.set(2, what, 0), OUTSIDE);
        }
    }

    private static void outsideParts() {
        for (int part : NO_PARTS) {
            String of = " part " + part;
            refused("tested" + of, RefusalTest::rich, x -> x.tested(0, part), OUTSIDE);
            refused("odds" + of, RefusalTest::rich, x -> x.odds(0, 0, 0, part), LOST - 2);
            refused("odds" + of, RefusalTest::rich, x -> x.odds(1, 0, 1, part), LOST - 2);
            refused("odds" + of, RefusalTest::rich, x -> x.odds(2, 1, 0, part), LOST - 2);
            refused("sorts" + of, RefusalTest::rich, x -> x.sorts(0, part), LOST - 2);
            refused("blame" + of, RefusalTest::rich, x -> x.blame(0, part), LOST - 2);
            refused("hope" + of, RefusalTest::rich, x -> x.hope(0, part), LOST - 2);
            refused("next" + of, RefusalTest::rich, x -> x.next(part), OUTSIDE);
            refused("worst" + of, RefusalTest::rich, x -> x.worst(31, part), OUTSIDE);
            refused("mean" + of, RefusalTest::rich, x -> x.mean(31, part), OUTSIDE);
            refused("fails" + of, RefusalTest::rich, x -> x.fails(31, part), OUTSIDE);
            refused("out" + of, RefusalTest::rich, x -> x.out(4, part), OUTSIDE);
        }
        int[] sorts = {-1, 3, 4, 35, Integer.MIN_VALUE, Integer.MAX_VALUE};
        for (int sort : sorts) {
            refused("weight of sort " + sort, RefusalTest::rich, x -> x.weight(sort, 0, 1), LOST - 2);
            refused("odds of sort " + sort, RefusalTest::rich, x -> x.odds(sort, 0, 1, 0), LOST - 2);
            refused("sorts of sort " + sort, RefusalTest::rich, x -> x.sorts(sort, 0), LOST - 2);
            refused("sorts of sort " + sort, RefusalTest::rich, x -> x.sorts(sort, 1), LOST - 2);
            refused("guess " + sort, RefusalTest::rich, x -> x.guess(sort), OUTSIDE);
        }
    }

    private static void outsideSets() {
        int[] sets = {32, 33, 63, 4095, 4096, 1 << 30, -1, -32, Integer.MIN_VALUE, Integer.MIN_VALUE | 1};
        for (int set : sets) {
            for (int w = 0; w < 2; w++) {
                int what = w;
                refused("worst of " + set, RefusalTest::rich, x -> x.worst(set, what), OUTSIDE);
                refused("mean of " + set, RefusalTest::rich, x -> x.mean(set, what), OUTSIDE);
            }
        }
        refused("worst, no changes", RefusalTest::empty, x -> x.worst(1, 0), OUTSIDE);
        refused("mean, no changes", RefusalTest::empty, x -> x.mean(1, 0), OUTSIDE);
        refused("worst, all changes and one more", RefusalTest::full, x -> x.worst(8191, 0), OUTSIDE);
        refused("mean, all changes and one more", RefusalTest::full, x -> x.mean(8191, 0), OUTSIDE);
        int[] texts = {4096, 4097, 8191, -1, -4096, Integer.MIN_VALUE, Integer.MAX_VALUE};
        for (int set : texts) {
            refused("fails " + set, RefusalTest::rich, x -> x.fails(set, 0), OUTSIDE);
            refused("sound " + set, RefusalTest::rich, x -> x.fails(set, 1), OUTSIDE);
        }
    }

    private static void outsideOthers() {
        int[] whiches = {-1, 5, 6, 37, Integer.MIN_VALUE, Integer.MAX_VALUE};
        for (int which : whiches) {
            refused("trust " + which, RefusalTest::rich, x -> x.trust(which, 1), OUTSIDE);
        }
        int[] values = {-1, 10, 11, 256, Integer.MIN_VALUE, Integer.MAX_VALUE};
        for (int which = 0; which < 5; which++) {
            int row = which;
            for (int v : values) {
                refused("trust " + row + " to " + v, RefusalTest::rich, x -> x.trust(row, v), OUTSIDE);
            }
        }
        for (int v = 6; v < 10; v++) {
            int tenths = v;
            refused("miss " + v, RefusalTest::rich, x -> x.trust(0, tenths), OUTSIDE);
            refused("false " + v, RefusalTest::rich, x -> x.trust(1, tenths), OUTSIDE);
        }
        int[] signs = {32, 127, 0, -1, -33, 'a' + 256, 1 << 16 | 'a', Integer.MIN_VALUE, Integer.MAX_VALUE};
        for (int sign : signs) {
            refused("say " + sign, RefusalTest::rich, x -> x.say(sign), OUTSIDE);
        }
        int[] limits = {0, 11, -1, 12, 256, Integer.MIN_VALUE, Integer.MAX_VALUE};
        for (int limit : limits) {
            refused("play to " + limit, RefusalTest::rich, x -> x.play(limit), OUTSIDE);
        }
        int[] whats = {-1, 22, 23, 29, 42, 49, 62, 63, Integer.MIN_VALUE, Integer.MAX_VALUE};
        for (int what : whats) {
            refused("told " + what, RefusalTest::rich, x -> x.told(what), OUTSIDE);
            refused("told " + what, RefusalTest::empty, x -> x.told(what), OUTSIDE);
        }
    }

    private static void states() {
        refused("deaf, first test of it", RefusalTest::rich, x -> x.set(0, 3, 1), STATE);
        refused("deaf, last test of it", RefusalTest::rich, x -> x.set(4, 3, 1), STATE);
        refused("test of a deaf one", RefusalTest::rich, x -> x.test(1, true), STATE);
        refused("test of a deaf one", RefusalTest::rich, x -> x.test(1, false), STATE);
        refused("fails, no truth", RefusalTest::untold, x -> x.fails(0, 0), STATE);
        refused("fails, no truth", RefusalTest::untold, x -> x.fails(4095, 0), STATE);
        refused("play, no truth: the tests stay", RefusalTest::untold, x -> x.play(1), STATE);
        refused("play, no truth", RefusalTest::untold, x -> x.play(10), STATE);
        refused("out, no truth", RefusalTest::untold, x -> x.out(0, 0), STATE);
        refused("out, no truth", RefusalTest::untold, x -> x.out(4, 1), STATE);
        refused("core, no truth", RefusalTest::untold, x -> x.core(0, -1), STATE);
        refused("core, no truth", RefusalTest::untold, x -> x.core(4, 0), STATE);
        refused("core, no truth, i below -1", RefusalTest::untold, x -> x.core(4, -2), STATE);
    }

    private static void noes() {
        refused("untest, there is none", RefusalTest::empty, x -> x.untest(), NO);
        refused("untest, there is none", RefusalTest::deaf, x -> x.untest(), NO);
        for (int w = 0; w < 3; w++) {
            int what = w;
            refused("guess, no stories", RefusalTest::empty, x -> x.guess(what), NO);
            refused("guess, all weights are 0", RefusalTest::weightless, x -> x.guess(what), NO);
        }
        refused("truth, no signs", RefusalTest::empty, x -> x.truth(), NO);
        refused("truth, more must come", RefusalTest::rich, x -> x.truth(), NO);
        refused("truth, a fault", RefusalTest::full, x -> x.truth(), NO);
        refused("play, all are deaf", RefusalTest::deaf, x -> x.play(1), NO);
        refused("play, all are deaf", RefusalTest::deaf, x -> x.play(10), NO);
        refused("out, nothing does", RefusalTest::deaf, x -> x.out(0, 0), NO);
        refused("out, nothing does", RefusalTest::deaf, x -> x.out(1, 1), NO);
    }

    private static void fulls() {
        refused("version, full", RefusalTest::full, x -> x.version(-1, -1, 1), FULL);
        refused("version on one, full", RefusalTest::full, x -> x.version(11, -1, 9), FULL);
        refused("version on two, full", RefusalTest::full, x -> x.version(3, 11, 5), FULL);
        refused("test, full", RefusalTest::full, x -> x.test(0, true), FULL);
        refused("test, full", RefusalTest::full, x -> x.test(10, false), FULL);
        refused("say, full", RefusalTest::full, x -> x.say('a'), FULL);
        refused("say, full", RefusalTest::full, x -> x.say(33), FULL);
        refused("say, full", RefusalTest::full, x -> x.say(126), FULL);
    }

    // ---- where several fit, the first one

    private static void unknownAheadOfAll() {
        refused("version: and size", RefusalTest::rich, x -> x.version(5, -1, 0), UNKNOWN);
        refused("version: both are one, and size", RefusalTest::rich, x -> x.version(2, 2, 10), UNKNOWN);
        refused("version: -1 ahead, and size", RefusalTest::rich, x -> x.version(-1, 0, 0), UNKNOWN);
        refused("version: and full", RefusalTest::full, x -> x.version(12, -1, 1), UNKNOWN);
        refused("version: both are one, and full", RefusalTest::full, x -> x.version(2, 2, 1), UNKNOWN);
        refused("version: -1 ahead, and full", RefusalTest::full, x -> x.version(-1, 0, 1), UNKNOWN);
        refused("version: and size, and full", RefusalTest::full, x -> x.version(12, -1, 10), UNKNOWN);
        refused("set: and what", RefusalTest::rich, x -> x.set(5, 4, 1), UNKNOWN);
        refused("set: and v", RefusalTest::rich, x -> x.set(5, 3, 2), UNKNOWN);
        refused("test: and full", RefusalTest::full, x -> x.test(12, true), UNKNOWN);
        refused("tested: and what", RefusalTest::rich, x -> x.tested(3, 2), UNKNOWN);
        refused("odds: and part", RefusalTest::rich, x -> x.odds(0, 5, 0, 2), LOST - 1);
        refused("odds: both are one, and part", RefusalTest::rich, x -> x.odds(2, 1, 1, -1), LOST - 1);
        refused("odds: not less, and part", RefusalTest::rich, x -> x.odds(1, 1, 0, 2), LOST - 1);
        refused("blame: and part", RefusalTest::rich, x -> x.blame(5, 2), LOST - 1);
        refused("hope: and part", RefusalTest::rich, x -> x.hope(5, 2), LOST - 1);
        refused("hope: deaf, and part", RefusalTest::rich, x -> x.hope(1, 2), LOST - 1);
        refused("out: and what", RefusalTest::rich, x -> x.out(5, 2), UNKNOWN);
        refused("out: and no truth", RefusalTest::untold, x -> x.out(5, 0), UNKNOWN);
        refused("out: and what, and no truth", RefusalTest::untold, x -> x.out(5, 2), UNKNOWN);
        refused("out: and nothing does", RefusalTest::deaf, x -> x.out(2, 0), UNKNOWN);
        refused("core: and no truth", RefusalTest::untold, x -> x.core(5, -1), UNKNOWN);
    }

    private static void outsideAheadOfStateNoAndFull() {
        refused("version: size, and full", RefusalTest::full, x -> x.version(11, -1, 0), OUTSIDE);
        refused("set: deaf 2, and tests", RefusalTest::rich, x -> x.set(0, 3, 2), OUTSIDE);
        refused("weight: sort, ahead of unknown", RefusalTest::rich, x -> x.weight(3, 5, 5), LOST - 2);
        refused("weight: sort, ahead of unknown", RefusalTest::empty, x -> x.weight(-1, 0, 1), LOST - 2);
        refused("odds: sort, ahead of unknown", RefusalTest::rich, x -> x.odds(3, 5, 5, 0), LOST - 2);
        refused("odds: sort, ahead of unknown", RefusalTest::empty, x -> x.odds(-1, 0, 1, 1), LOST - 2);
        refused("guess: what, and no stories", RefusalTest::empty, x -> x.guess(3), OUTSIDE);
        refused("guess: what, and all weights are 0", RefusalTest::weightless, x -> x.guess(-1), OUTSIDE);
        refused("next: how, and none can be tested", RefusalTest::deaf, x -> x.next(2), OUTSIDE);
        refused("say: sign, and full", RefusalTest::full, x -> x.say(32), OUTSIDE);
        refused("say: sign, and full", RefusalTest::full, x -> x.say(127), OUTSIDE);
        refused("fails: set, and no truth", RefusalTest::untold, x -> x.fails(4096, 0), OUTSIDE);
        refused("fails: what, and no truth", RefusalTest::untold, x -> x.fails(0, 2), OUTSIDE);
        refused("play: limit, and no truth", RefusalTest::untold, x -> x.play(0), OUTSIDE);
        refused("play: limit, and all are deaf", RefusalTest::deaf, x -> x.play(11), OUTSIDE);
        refused("play: limit, no truth, all are deaf", RefusalTest::deafUntold, x -> x.play(11), OUTSIDE);
        refused("out: what, and no truth", RefusalTest::untold, x -> x.out(0, 2), OUTSIDE);
        refused("out: what, and nothing does", RefusalTest::deaf, x -> x.out(0, -1), OUTSIDE);
    }

    private static void stateAheadOfNoAndFull() {
        refused("test: deaf, and full", RefusalTest::full, x -> x.test(11, true), STATE);
        refused("play: no truth, and all are deaf", RefusalTest::deafUntold, x -> x.play(5), STATE);
        refused("play: no truth, and no versions", RefusalTest::empty, x -> x.play(5), STATE);
    }

    /** Calls that only ask are as good as none: not refused, but they change nothing either. */
    private static void askingChangesNothing() {
        BrokeWhere x = rich();
        BrokeWhere same = rich();
        for (int i = 0; i < 2; i++) {
            x.odds(2, 4, 0, i);
            x.sorts(1, i);
            x.blame(4, i);
            x.guess(1 + i);
            x.hope(4, i);
            x.next(i);
            x.worst(22, i);
            x.mean(22, i);
            x.out(4, i);
            x.core(4, i - 1);
            x.fails(5, i);
            x.told(4 + i);
            x.fault();
        }
        CHECK.so("asking changes nothing", Made.all(x).equals(Made.all(same)));
        CHECK.due("then truth()", x.truth(), NO);
        CHECK.due("then say()", x.say('b'), 3);
        CHECK.due("then truth()", x.truth(), 3);
    }
}
