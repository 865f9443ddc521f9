/** The document's part 3, sentence by sentence: the boundaries that it names for tests without lies. */
public final class PartingsEdgeTest {
    private static final int NONE = Edge.NONE, UNKNOWN = Edge.UNKNOWN;
    private static final Edge EDGE = new Edge("PartingsEdgeTest");

    public static void main(String[] args) {
        lies();
        smallSets();
        unparted();
        worst();
        worstStart();
        mean();
        meanIsNotWorst();
        meanStart();
        whatIsSetCounts();
        twins();
        EDGE.end();
    }

    private static void lies() {
        EDGE.words("Without lies (whatever MISS and FALSE are)");
        BrokeWhere x = Made.chain(1, 1, 1, 1, 1);
        x.trust(0, 5);
        x.trust(1, 5);
        EDGE.worst(x, 31, 3, 0);
        EDGE.mean(x, 31, 12, 1);
        EDGE.words("of which ONE did it");
        Made.faith(x, 0, 9, 9);
        x.test(2, true);
        x.test(2, false);
        EDGE.worst(x, 31, 3, 0);
        EDGE.mean(x, 31, 12, 1);
        EDGE.due("twins(2)", x.twins(2), 4);
    }

    private static void smallSets() {
        EDGE.words("of a set of CHANGES (bits)");
        BrokeWhere none = new BrokeWhere();
        EDGE.worst(none, 0, 0, NONE);
        EDGE.mean(none, 0, 0, NONE);
        BrokeWhere x = Made.chain(Made.times(12, 9));
        EDGE.worst(x, 0, 0, NONE);
        EDGE.mean(x, 0, 0, NONE);
        for (int c = 0; c < 12; c++) {
            EDGE.worst(x, 1 << c, 0, NONE);
            EDGE.mean(x, 1 << c, 0, NONE);
        }
        // the first and the last one: any version but the last parts them
        EDGE.worst(x, 2049, 1, 0);
        EDGE.mean(x, 2049, 18, 0);
        // the last two: only version 10 parts them
        EDGE.worst(x, 3072, 1, 10);
        EDGE.mean(x, 3072, 18, 10);
        EDGE.words("OUTSIDE: bits of no CHANGE; what.");
        EDGE.worst(x, 4096, Edge.OUTSIDE, Edge.OUTSIDE);
        EDGE.mean(x, 4096, Edge.OUTSIDE, Edge.OUTSIDE);
        EDGE.worst(x, -1, Edge.OUTSIDE, Edge.OUTSIDE);
        EDGE.mean(x, -1, Edge.OUTSIDE, Edge.OUTSIDE);
        EDGE.due("what", x.worst(0, 2), Edge.OUTSIDE);
        EDGE.due("what", x.mean(0, 2), Edge.OUTSIDE);
    }

    private static void unparted() {
        EDGE.words("to a set that no VERSION parts any more");
        BrokeWhere x = Made.chain(2, 3, 4);
        x.set(1, 3, 1);
        EDGE.worst(x, 6, 0, NONE);
        EDGE.mean(x, 6, 0, NONE);
        EDGE.worst(x, 7, 1, 0);
        EDGE.mean(x, 7, 9, 0);
        x.set(0, 3, 1);
        EDGE.worst(x, 7, 0, NONE);
        EDGE.mean(x, 7, 0, NONE);
        x.set(2, 3, 1);
        EDGE.worst(x, 7, 0, NONE);
        EDGE.mean(x, 7, 0, NONE);
        x.set(1, 3, 0);
        EDGE.worst(x, 7, 1, 1);
        EDGE.mean(x, 7, 9, 1);
        EDGE.words("those that it HAS, and others");
        BrokeWhere joined = Made.apart(1, 1);
        joined.version(0, 1, 1);
        joined.set(0, 3, 1);
        joined.set(1, 3, 1);
        // version 2 has all of them
        EDGE.worst(joined, 7, 0, NONE);
        EDGE.mean(joined, 7, 0, NONE);
    }

    private static void worst() {
        EDGE.words("WORST: the fewest TESTS, each by what the ones ahead told");
        int[] due = {0, 1, 2, 2, 3, 3, 3, 3, 4, 4, 4, 4};
        for (int count = 1; count <= 12; count++) {
            BrokeWhere x = Made.chain(Made.times(count, 1));
            EDGE.due(count + " in a row", x.worst((1 << count) - 1, 0), due[count - 1]);
            BrokeWhere y = Made.apart(Made.times(count, 1));
            EDGE.due(count + " apart", y.worst((1 << count) - 1, 0), count - 1);
        }
        EDGE.words("whichever it was");
        // two rows of three on one: 0; 1, 2, 3; 4, 5, 6; version 2 leaves 3 and 4 of them, version 1 five
        BrokeWhere x = Made.chain(1, 1, 1, 1);
        x.version(0, -1, 1);
        x.version(4, -1, 1);
        x.version(5, -1, 1);
        EDGE.worst(x, 127, 3, 2);
        EDGE.worst(x, 126, 3, 2);
        // neither sizes nor costs are looked at
        for (int v = 0; v < 7; v++) {
            x.set(v, 0, 9 - v);
            x.set(v, 1, 1 + v);
        }
        x.set(2, 1, 9);
        EDGE.worst(x, 127, 3, 2);
    }

    private static void worstStart() {
        EDGE.words("START of both: the least VERSION that can be tested first for it");
        // of n in a row the first test leaves 2 to the power of (tests - 1) at most on both sides
        int[] due = {NONE, 0, 0, 1, 0, 1, 2, 3, 0, 1, 2, 3};
        for (int count = 1; count <= 12; count++) {
            BrokeWhere x = Made.chain(Made.times(count, 1));
            EDGE.due(count + " in a row", x.worst((1 << count) - 1, 1), due[count - 1]);
        }
        BrokeWhere y = Made.apart(Made.times(12, 1));
        EDGE.worst(y, 4095, 11, 0);
        y.set(0, 3, 1);
        EDGE.worst(y, 4095, 11, 1);
        y.set(1, 3, 1);
        EDGE.worst(y, 4095, 10, 2);
        EDGE.worst(y, 2049, 1, 11);
    }

    private static void mean() {
        EDGE.words("the least sum over all CHANGES of SIZE times the COSTS of all TESTS on the way to it");
        EDGE.mean(Made.chain(1, 1), 3, 2, 0);
        BrokeWhere great = Made.apart(Made.times(12, 9));
        for (int v = 0; v < 12; v++) {
            great.set(v, 1, 9);
        }
        // one goes with each test: 81 times 12 + 11 + .. + 2
        EDGE.mean(great, 4095, 6237, 0);
        EDGE.mean(Made.chain(9, 9), 3, 18, 0);
        BrokeWhere x = Made.chain(1, 1, 1);
        x.set(0, 1, 2);
        // by version 1 first 3 * 1 + 2 * 2, by version 0 first 3 * 2 + 2 * 1
        EDGE.mean(x, 7, 7, 1);
        x.set(1, 1, 3);
        // by version 0 first 3 * 2 + 2 * 3, by version 1 first 3 * 3 + 2 * 2
        EDGE.mean(x, 7, 12, 0);
        x.set(2, 0, 9);
        // by version 1 first 11 * 3 + 2 * 2, by version 0 first 11 * 2 + 10 * 3
        EDGE.mean(x, 7, 37, 1);
    }

    private static void meanIsNotWorst() {
        EDGE.words("MEAN: of such rows of TESTS the least sum");
        BrokeWhere x = Made.chain(1, 1, 1, 9);
        // the heavy one goes first, though three tests are more than the fewest at worst
        EDGE.worst(x, 15, 2, 1);
        EDGE.mean(x, 15, 12 + 3 + 2, 2);
    }

    private static void meanStart() {
        EDGE.words("START of both: the least VERSION that can be tested first for it (NONE: no VERSION parts it)");
        // 3 + 2, whichever of versions 0 and 1 is the first
        EDGE.mean(Made.chain(1, 1, 1), 7, 5, 0);
        BrokeWhere x = Made.chain(1, 1, 1, 1, 1, 1, 1, 1);
        EDGE.mean(x, 255, 24, 3);
        BrokeWhere y = Made.apart(Made.times(12, 1));
        EDGE.mean(y, 4095, 77, 0);
        y.set(0, 1, 2);
        EDGE.mean(y, 4095, 77, 1);
        y.set(1, 3, 1);
        // 0 and 1 are left at the end: one of the two must be tested, and that is 0
        EDGE.mean(y, 4095, 77 + 2, 2);
    }

    /** What is set, and a version that is made, between two calls counts for the second one. */
    private static void whatIsSetCounts() {
        EDGE.words("a TEST of a VERSION that is not DEAF parts them");
        BrokeWhere x = Made.chain(1, 1, 1, 1);
        EDGE.worst(x, 15, 2, 1);
        EDGE.mean(x, 15, 8, 1);
        x.set(0, 0, 9);
        EDGE.mean(x, 15, 12 + 3 + 2, 0);
        x.set(0, 1, 2);
        // by version 1 first 12 + 10 * 2 + 2, by version 0 first 12 * 2 + 3 + 2
        EDGE.mean(x, 15, 29, 0);
        x.set(0, 3, 1);
        EDGE.worst(x, 15, 2, 1);
        EDGE.mean(x, 15, 12 + 2, 1);
        x.set(1, 3, 1);
        EDGE.worst(x, 15, 1, 2);
        EDGE.mean(x, 15, 12, 2);
        x.version(-1, -1, 5);
        EDGE.worst(x, 31, 2, 2);
        // 4 alone first: 17 + 12; 3 or the others first: 17 + 16, 17 + 6
        EDGE.mean(x, 31, 17 + 6, 2);
        x.set(0, 3, 0);
        EDGE.worst(x, 31, 2, 2);
        x.set(2, 3, 1);
        EDGE.due("the sum asked first, version 0 costs 2", x.mean(15, 0), 24);
        EDGE.due("the tests asked first", x.worst(15, 0), 1);
        BrokeWhere y = Made.apart(1, 1, 1, 1);
        EDGE.worst(y, 15, 3, 0);
        EDGE.mean(y, 15, 9, 0);
        // it has 0 and 1 and so parts what was there ahead of it
        y.version(0, 1, 1);
        EDGE.worst(y, 15, 2, 4);
        EDGE.mean(y, 15, 8, 4);
    }

    private static void twins() {
        EDGE.words("TWINS of a CHANGE: all CHANGES that no VERSION (not DEAF) tells apart from it.");
        BrokeWhere row = Made.chain(Made.times(12, 1));
        BrokeWhere apart = Made.apart(Made.times(12, 1));
        for (int c = 0; c < 12; c++) {
            EDGE.due("in a row " + c, row.twins(c), 1 << c);
            EDGE.due("apart " + c, apart.twins(c), 1 << c);
        }
        row.set(10, 3, 1);
        EDGE.due("the last two", row.twins(10), 3072);
        EDGE.due("the last two", row.twins(11), 3072);
        EDGE.due("the one ahead", row.twins(9), 512);
        row.set(11, 3, 1);
        EDGE.due("none that can be built has them", row.twins(11), 3072);
        EDGE.due("none that can be built has them", row.twins(10), 3072);
        apart.set(0, 3, 1);
        EDGE.due("it is the only one of which nothing is known", apart.twins(0), 1);
        apart.set(11, 3, 1);
        EDGE.due("two of which nothing is known", apart.twins(0), 2049);
        EDGE.words("as bits (itself, too)");
        for (int v = 0; v < 12; v++) {
            row.set(v, 3, 1);
        }
        for (int c = 0; c < 12; c++) {
            EDGE.due("all are deaf", row.twins(c), 4095);
        }
        EDGE.due("beyond", row.twins(12), UNKNOWN);
        EDGE.due("alone", Made.chain(1).twins(0), 1);
        EDGE.due("no changes", new BrokeWhere().twins(0), UNKNOWN);
        EDGE.words("all CHANGES that no VERSION (not DEAF) tells apart from it");
        BrokeWhere x = Made.chain(1, 1);
        x.set(0, 3, 1);
        EDGE.due("two", x.twins(0), 3);
        x.version(0, -1, 1);
        EDGE.due("told apart by it", x.twins(0), 1);
        EDGE.due("told apart by it", x.twins(1), 2);
    }
}
