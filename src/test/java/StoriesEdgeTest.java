/** The document's part 2, sentence by sentence: the boundaries that it names for stories, guesses and the next test. */
public final class StoriesEdgeTest {
    private static final int MIN = Edge.MIN, MAX = Edge.MAX, NONE = Edge.NONE, NO = Edge.NO;
    private static final long LOST = Edge.LOST;
    private static final int MISS = 0, FALSE = 1;
    private static final Edge EDGE = new Edge("StoriesEdgeTest");

    public static void main(String[] args) {
        stories();
        refusedStories();
        weights();
        tenths();
        manyTests();
        shares();
        nothing();
        greatFractions();
        guesses();
        lastGuess();
        halves();
        hopes();
        nextByHope();
        nextOfNone();
        EDGE.end();
    }

    /** Which versions should fail is told by the weights behind one test of each, that lies never. */
    private static void failing(BrokeWhere x, int sort, int first, int second, int bits) {
        for (int v = 0; v < x.told(0); v++) {
            x.test(v, false);
            boolean fails = x.weight(sort, first, second) > 0;
            x.untest();
            EDGE.due("sort " + sort + " " + first + " " + second + ", version " + v, fails ? 1 : 0, bits >> v & 1);
        }
    }

    private static void stories() {
        // 0; 1 and 2 on it; 3 joins them; 4 on 3
        BrokeWhere x = Made.chain(1, 1);
        x.version(0, -1, 1);
        x.version(1, 2, 1);
        x.version(3, -1, 1);
        Made.faith(x, 1, 1, 1);
        EDGE.words("0 ONE: a CHANGE: those that HAVE it.");
        failing(x, 0, 0, 0, 31);
        failing(x, 0, 1, 0, 26);
        failing(x, 0, 2, 0, 28);
        failing(x, 0, 4, 0, 16);
        EDGE.words("1 BOTH: two CHANGES (the lesser number is the first one): those that HAVE both.");
        failing(x, 1, 0, 1, 26);
        failing(x, 1, 1, 2, 24);
        failing(x, 1, 3, 4, 16);
        EDGE.words("2 MENDED: a CHANGE and another one: those that HAVE the first, but not the second one.");
        failing(x, 2, 0, 1, 5);
        failing(x, 2, 1, 2, 2);
        failing(x, 2, 2, 1, 4);
        failing(x, 2, 0, 4, 15);
        // every version that has 3 has 0, too
        failing(x, 2, 3, 0, 0);
        failing(x, 2, 4, 3, 0);
    }

    private static void refusedStories() {
        BrokeWhere x = Made.chain(1, 1, 1, 1, 1);
        Made.faith(x, 1, 1, 1);
        EDGE.words("WEIGHT of a STORY (ONE: other is not looked at).");
        int[] others = {0, 1, 5, -1, 12, MIN, MAX};
        for (int other : others) {
            EDGE.due("other " + other, x.weight(0, 1, other), 1);
            EDGE.due("odds, other " + other, x.odds(0, 1, other, 0), 1);
        }
        EDGE.due("of BOTH it is", x.weight(1, 1, 5), LOST - 1);
        EDGE.due("of MENDED it is", x.weight(2, 1, -1), LOST - 1);
        EDGE.words("UNKNOWN: also both are one, of BOTH the first is not less (LOST less 2, 1).");
        EDGE.due("BOTH, one", x.weight(1, 2, 2), LOST - 1);
        EDGE.due("BOTH, not less", x.weight(1, 2, 1), LOST - 1);
        EDGE.due("BOTH, less", x.weight(1, 1, 2), 1);
        EDGE.due("MENDED, one", x.weight(2, 2, 2), LOST - 1);
        EDGE.due("MENDED, not less", x.weight(2, 2, 1), 1);
        EDGE.due("MENDED, less", x.weight(2, 1, 2), 1);
        EDGE.due("sort, ahead", x.weight(3, 7, 7), LOST - 2);
    }

    private static void weights() {
        EDGE.words("FAITH, SIZES of its CHANGES times one another");
        BrokeWhere x = Made.apart(7, 3);
        Made.faith(x, 2, 5, 9);
        EDGE.due("ONE", x.weight(0, 0, 1), 14);
        EDGE.due("BOTH", x.weight(1, 0, 1), 105);
        EDGE.due("MENDED", x.weight(2, 1, 0), 189);
        Made.faith(x, 0, 0, 0);
        EDGE.due("no faith", x.weight(0, 0, 1), 0);
        EDGE.due("no faith", x.weight(1, 0, 1), 0);
        EDGE.due("no faith", x.weight(2, 0, 1), 0);
    }

    private static void tenths() {
        BrokeWhere x = Made.apart(7, 3);
        EDGE.words("should it fail: MISS, if it passed, 10 less MISS, if it failed");
        for (int tenths = 0; tenths <= 5; tenths++) {
            x.trust(MISS, tenths);
            x.trust(FALSE, 5 - tenths);
            x.test(0, true);
            EDGE.due("passed, miss " + tenths, x.weight(0, 0, 0), 7 * tenths);
            x.untest();
            x.test(0, false);
            EDGE.due("failed, miss " + tenths, x.weight(0, 0, 0), 7 * (10 - tenths));
            x.untest();
        }
        EDGE.words("should it pass: FALSE, if it failed, 10 less FALSE, if it passed");
        for (int tenths = 0; tenths <= 5; tenths++) {
            x.trust(FALSE, tenths);
            x.trust(MISS, 5 - tenths);
            x.test(0, false);
            EDGE.due("failed, false " + tenths, x.weight(0, 1, 0), 3 * tenths);
            x.untest();
            x.test(0, true);
            EDGE.due("passed, false " + tenths, x.weight(0, 1, 0), 3 * (10 - tenths));
            x.untest();
        }
    }

    private static void manyTests() {
        EDGE.words("for each TEST");
        BrokeWhere most = Made.chain(9, 9);
        Made.faith(most, 9, 9, 9);
        Made.test(most, 1, false, 12);
        EDGE.due("the most of ONE", most.weight(0, 0, 0), 81000000000000L);
        EDGE.due("the most of BOTH", most.weight(1, 0, 1), 729000000000000L);
        EDGE.due("none of it", most.weight(2, 0, 1), 0);
        most.trust(FALSE, 1);
        EDGE.due("each one a lie", most.weight(2, 0, 1), 729);
        most.trust(MISS, 5);
        EDGE.due("each one by halves", most.weight(1, 0, 1), 729L * 244140625L);
    }

    private static void shares() {
        EDGE.words("Fractions are told by part: 0 the upper, 1 the lower number, in lowest terms (0 by 1 for nothing)");
        BrokeWhere x = Made.apart(2, 4, 6);
        EDGE.odds(x, 0, 0, 0, 1, 6);
        EDGE.odds(x, 0, 1, 0, 1, 3);
        EDGE.odds(x, 0, 2, 0, 1, 2);
        EDGE.odds(x, 1, 0, 1, 0, 1);
        EDGE.sorts(x, 0, 1, 1);
        EDGE.sorts(x, 1, 0, 1);
        EDGE.words("ODDS of a STORY: its WEIGHT by all.");
        Made.faith(x, 1, 1, 1);
        // 12 of ONE, 8 + 12 + 24 of BOTH, 88 of MENDED
        EDGE.odds(x, 0, 0, 0, 1, 72);
        EDGE.odds(x, 1, 1, 2, 1, 6);
        EDGE.odds(x, 2, 2, 1, 1, 6);
        EDGE.words("SORT's ODDS: of its STORIES together.");
        EDGE.sorts(x, 0, 1, 12);
        EDGE.sorts(x, 1, 11, 36);
        EDGE.sorts(x, 2, 11, 18);
        EDGE.words("STORIES together in which it is the first or (BOTH) the second one");
        // of ONE 2, of BOTH 8 + 12, of MENDED 8 + 12 where it is the first
        EDGE.blame(x, 0, 7, 24);
        EDGE.blame(x, 1, 17, 36);
        EDGE.blame(x, 2, 13, 24);
        Made.faith(x, 0, 0, 1);
        // the one that mended it is not to blame: 4 * 2 + 4 * 6 of 88
        EDGE.blame(x, 1, 4, 11);
    }

    private static void nothing() {
        EDGE.words("(0 by 1 for nothing)");
        BrokeWhere x = Made.chain(3, 5);
        Made.faith(x, 0, 0, 0);
        for (int round = 0; round < 2; round++) {
            for (int c = 0; c < 2; c++) {
                EDGE.odds(x, 0, c, 0, 0, 1);
                EDGE.odds(x, 2, c, 1 - c, 0, 1);
                EDGE.blame(x, c, 0, 1);
                EDGE.hope(x, c, 0, 1);
            }
            EDGE.odds(x, 1, 0, 1, 0, 1);
            for (int sort = 0; sort < 3; sort++) {
                EDGE.sorts(x, sort, 0, 1);
            }
            // then all have faith, but the tests are against one another
            Made.faith(x, 9, 9, 9);
            x.test(1, true);
            x.test(1, false);
        }
        BrokeWhere empty = new BrokeWhere();
        for (int sort = 0; sort < 3; sort++) {
            EDGE.sorts(empty, sort, 0, 1);
        }
        alone(1);
        alone(9);
    }

    private static void alone(int size) {
        BrokeWhere x = Made.chain(size);
        Made.faith(x, 1, 9, 9);
        EDGE.sorts(x, 0, 1, 1);
        EDGE.sorts(x, 1, 0, 1);
        EDGE.sorts(x, 2, 0, 1);
        EDGE.odds(x, 0, 0, 0, 1, 1);
        EDGE.blame(x, 0, 1, 1);
        EDGE.hope(x, 0, 1, 1);
    }

    /** Fractions whose numbers are as great as they come, against big numbers. */
    private static void greatFractions() {
        EDGE.words("which change did it, by exact odds");
        BrokeWhere x = new BrokeWhere();
        Model m = new Model();
        int[] on = {-1, 0, -1, 2, 1, 0, 4, 3, -1, 8, 9, 6};
        for (int v = 0; v < 12; v++) {
            EDGE.due("version", x.version(on[v], -1, 9 - v % 3), m.version(on[v], -1, 9 - v % 3));
        }
        int[] trusts = {1, 1, 9, 8, 7};
        for (int i = 0; i < 5; i++) {
            EDGE.due("trust", x.trust(i, trusts[i]), m.trust(i, trusts[i]));
        }
        for (int t = 0; t < 12; t++) {
            EDGE.due("test", x.test(5, true), m.test(5, true));
        }
        long most = 0;
        for (int c = 0; c < 12; c++) {
            int other = (c + 5) % 12;
            EDGE.odds(x, 0, c, 0, m.odds(0, c, 0, 0), m.odds(0, c, 0, 1));
            EDGE.odds(x, 2, c, other, m.odds(2, c, other, 0), m.odds(2, c, other, 1));
            EDGE.blame(x, c, m.blame(c, 0), m.blame(c, 1));
            EDGE.hope(x, c, m.hope(c, 0), m.hope(c, 1));
            most = Math.max(most, m.hope(c, 1));
        }
        for (int sort = 0; sort < 3; sort++) {
            EDGE.sorts(x, sort, m.sorts(sort, 0), m.sorts(sort, 1));
            most = Math.max(most, m.sorts(sort, 1));
        }
        EDGE.due("they are beyond an int a thousand times", most > 1000L * MAX ? 1 : 0, 1);
        EDGE.guess(x, m.guess(0), m.guess(1), m.guess(2));
        EDGE.due("next(0)", x.next(0), m.next(0));
        EDGE.due("next(1)", x.next(1), m.next(1));
    }

    private static void guesses() {
        EDGE.words("the STORY of the most WEIGHT");
        BrokeWhere last = Made.apart(1, 1, 2);
        EDGE.guess(last, 0, 2, NONE);
        Made.faith(last, 1, 0, 3);
        EDGE.guess(last, 2, 0, 2);
        Made.faith(last, 5, 2, 2);
        EDGE.guess(last, 0, 2, NONE);
        EDGE.words("the first by SORTS, then the first CHANGE, then the second one");
        BrokeWhere same = Made.apart(1, 1, 1);
        Made.faith(same, 1, 1, 1);
        EDGE.guess(same, 0, 0, NONE);
        Made.faith(same, 0, 1, 1);
        EDGE.guess(same, 1, 0, 1);
        Made.faith(same, 0, 0, 1);
        EDGE.guess(same, 2, 0, 1);
        BrokeWhere great = Made.apart(1, 3, 3, 3);
        Made.faith(great, 3, 1, 1);
        EDGE.guess(great, 0, 1, NONE);
        Made.faith(great, 0, 1, 1);
        EDGE.guess(great, 1, 1, 2);
        Made.faith(great, 0, 0, 1);
        EDGE.guess(great, 2, 1, 2);
        BrokeWhere ends = Made.apart(3, 1, 3);
        Made.faith(ends, 0, 0, 1);
        EDGE.guess(ends, 2, 0, 2);
        EDGE.words("NO: all WEIGHTS are 0.");
        Made.faith(ends, 0, 0, 0);
        EDGE.guess(ends, NO, NO, NO);
        EDGE.guess(new BrokeWhere(), NO, NO, NO);
        BrokeWhere alone = Made.chain(9);
        Made.faith(alone, 0, 9, 9);
        EDGE.guess(alone, NO, NO, NO);
    }

    private static void lastGuess() {
        EDGE.words("then the first CHANGE, then the second one");
        int[] sizes = Made.times(12, 1);
        sizes[10] = 9;
        sizes[11] = 9;
        BrokeWhere x = Made.apart(sizes);
        Made.faith(x, 1, 1, 1);
        EDGE.guess(x, 1, 10, 11);
        Made.faith(x, 1, 0, 1);
        EDGE.guess(x, 2, 10, 11);
        // 10 without 11 should have failed there
        x.test(10, true);
        EDGE.guess(x, 2, 11, 10);
    }

    private static void halves() {
        EDGE.words("the nearest to one another");
        BrokeWhere x = Made.chain(1, 1, 1, 1);
        EDGE.due("2 and 2", x.next(0), 1);
        x.set(1, 1, 9);
        EDGE.due("2 and 2, dear as it is", x.next(0), 1);
        EDGE.due("5 and 4, 6 and 3", Made.chain(5, 1, 3).next(0), 0);
        EDGE.due("3 and 6, 4 and 5", Made.chain(3, 1, 5).next(0), 1);
        EDGE.words("of several the least COST, then the least number");
        BrokeWhere y = Made.chain(4, 1, 4);
        EDGE.due("4 and 5, 5 and 4: the least number", y.next(0), 0);
        y.set(0, 1, 2);
        EDGE.due("the least cost", y.next(0), 1);
        y.set(1, 1, 3);
        EDGE.due("the least cost", y.next(0), 0);
        y.set(0, 1, 3);
        EDGE.due("both cost 3", y.next(0), 0);
        EDGE.words("the VERSION (not DEAF)");
        y.set(0, 3, 1);
        EDGE.due("the other one", y.next(0), 1);
        y.set(1, 3, 1);
        EDGE.due("9 and 0, the only one", y.next(0), 2);
        EDGE.words("the WEIGHTS of STORIES by which it should fail and of all others");
        BrokeWhere z = Made.chain(1, 1, 1, 1);
        z.test(0, true);
        EDGE.due("1 and 2, 2 and 1: 0 is out of it", z.next(0), 1);
        z.test(1, true);
        EDGE.due("1 and 1", z.next(0), 2);
    }

    private static void hopes() {
        EDGE.words("(each STORY's WEIGHT times what that gives, as of any TEST) the most, together");
        BrokeWhere x = Made.chain(1, 2, 3, 4);
        EDGE.hope(x, 0, 1, 2);
        EDGE.hope(x, 1, 3, 5);
        EDGE.hope(x, 2, 7, 10);
        EDGE.hope(x, 3, 2, 5);
        // a lie is as likely as the truth: nothing is learned
        x.trust(MISS, 5);
        x.trust(FALSE, 5);
        for (int v = 0; v < 4; v++) {
            EDGE.hope(x, v, 2, 5);
        }
        // version 2 passes: the most of 3 * 2 and 4 * 10; it fails: of 3 * 8 and 4 * 0
        x.trust(MISS, 2);
        x.trust(FALSE, 0);
        EDGE.hope(x, 2, 16, 25);
        // it passes: the most of 3 * 0 and 4 * 7; it fails: of 3 * 10 and 4 * 3
        x.trust(MISS, 0);
        x.trust(FALSE, 3);
        EDGE.hope(x, 2, 29, 50);
        EDGE.words("UNKNOWN: also DEAF, OUTSIDE.");
        x.set(2, 3, 1);
        EDGE.due("deaf", x.hope(2, 0), LOST - 1);
        EDGE.due("deaf, part", x.hope(2, 2), LOST - 1);
        EDGE.due("part", x.hope(1, 2), LOST - 2);
    }

    private static void nextByHope() {
        EDGE.words("NEXT by HOPE: the VERSION of the most HOPE, likewise.");
        BrokeWhere x = Made.chain(1, 2, 3, 4);
        x.set(2, 1, 9);
        EDGE.due("the most, dear as it is", x.next(1), 2);
        x.set(2, 3, 1);
        EDGE.due("it is deaf", x.next(1), 1);
        BrokeWhere y = Made.apart(1, 1, 1);
        EDGE.due("the least number", y.next(1), 0);
        y.set(0, 1, 2);
        EDGE.due("the least cost", y.next(1), 1);
        y.set(2, 1, 2);
        y.set(1, 1, 3);
        EDGE.due("the least cost, then the least number", y.next(1), 0);
        y.set(0, 3, 1);
        EDGE.due("it is deaf", y.next(1), 2);
        EDGE.words("that GUESS is right behind a TEST of it");
        BrokeWhere z = Made.apart(1, 1, 1);
        z.test(0, true);
        EDGE.due("0 is out of it", z.next(1), 1);
        z.test(1, false);
        EDGE.due("it is sure: all have the same hope", z.next(1), 0);
        EDGE.hope(z, 2, 1, 1);
    }

    private static void nextOfNone() {
        EDGE.words("NONE: there is no VERSION that can be tested.");
        BrokeWhere none = new BrokeWhere();
        BrokeWhere deaf = Made.apart(Made.times(12, 1));
        for (int v = 0; v < 12; v++) {
            deaf.set(v, 3, 1);
        }
        for (int how = 0; how < 2; how++) {
            EDGE.due("no versions, " + how, none.next(how), NONE);
            EDGE.due("all are deaf, " + how, deaf.next(how), NONE);
        }
        deaf.set(11, 3, 0);
        EDGE.due("but the last one", deaf.next(0), 11);
        EDGE.due("but the last one", deaf.next(1), 11);
        EDGE.words("of several the least COST, then the least number");
        BrokeWhere zero = Made.chain(1, 2, 3);
        Made.faith(zero, 0, 0, 0);
        zero.set(0, 1, 5);
        zero.set(1, 1, 4);
        zero.set(2, 1, 4);
        EDGE.due("halves", zero.next(0), 1);
        EDGE.due("hope", zero.next(1), 1);
    }
}
