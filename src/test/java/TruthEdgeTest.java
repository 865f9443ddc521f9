/** The document's part 4, sentence by sentence: the boundaries that it names for the truth and what follows of it. */
public final class TruthEdgeTest {
    private static final int MIN = Edge.MIN, MAX = Edge.MAX, NONE = Edge.NONE, UNKNOWN = Edge.UNKNOWN;
    private static final int OUTSIDE = Edge.OUTSIDE, STATE = Edge.STATE, FULL = Edge.FULL, NO = Edge.NO;
    // 40 signs: a in all of it, and not b, c and d together
    private static final String LONGEST = "&" + "&a".repeat(8) + "a" + "&" + "&a".repeat(7) + "a" + "!&b&cd";
    private static final Edge EDGE = new Edge("TruthEdgeTest");

    public static void main(String[] args) {
        signs();
        wipe();
        faults();
        faultsWithin();
        moreMustCome();
        truth();
        texts();
        fails();
        sound();
        plays();
        playLimits();
        playTests();
        playOrder();
        outs();
        outsOfUnsound();
        noOuts();
        cores();
        coresOfSound();
        manyCores();
        told();
        toldOfAll();
        lastCall();
        EDGE.end();
    }

    private static int faultOf(String text) {
        BrokeWhere x = new BrokeWhere();
        Made.say(x, text);
        return x.fault();
    }

    private static boolean isLetter(int code) {
        return code >= 'a' && code <= 'l';
    }

    private static void signs() {
        EDGE.words("THE TRUTH is a text of up to 40 signs (codes 33 to 126; none at first)");
        BrokeWhere x = new BrokeWhere();
        EDGE.due("none at first", x.told(2), 0);
        EDGE.due("none at first", x.told(3), 0);
        for (int code = 30; code <= 130; code++) {
            EDGE.due("say(" + code + ")", x.say(code), code >= 33 && code <= 126 ? 1 : OUTSIDE);
            x.wipe();
        }
        EDGE.words("A sign more: how many. OUTSIDE; FULL.");
        for (int i = 1; i <= 40; i++) {
            EDGE.due("the sign " + i, x.say(i % 2 == 0 ? 33 : 126), i);
        }
        EDGE.due("one more", x.say('a'), FULL);
        EDGE.due("one more", x.say('a'), FULL);
        EDGE.due("told(2)", x.told(2), 40);
    }

    private static void wipe() {
        EDGE.words("Signs go: how many there were.");
        BrokeWhere x = new BrokeWhere();
        EDGE.due("none", x.wipe(), 0);
        Made.tell(x, "!b");
        Made.say(x, "a".repeat(40));
        EDGE.due("all that there can be", x.wipe(), 40);
        EDGE.due("none", x.wipe(), 0);
        EDGE.due("told(2)", x.told(2), 0);
        EDGE.due("there is room again", x.say('a'), 1);
        EDGE.due("the truth stays", x.told(3), 2);
        EDGE.due("the truth stays", x.fails(0, 0), 1);
        EDGE.due("the truth stays", x.fails(2, 0), 0);
    }

    private static void faults() {
        EDGE.words("the place (from 0 on) of the first sign that can not stand there");
        for (int code = 33; code <= 126; code++) {
            String sign = "" + (char) code;
            boolean opens = "!&|".contains(sign);
            EDGE.due("alone " + sign, faultOf(sign), isLetter(code) ? NONE : opens ? 1 : 0);
            EDGE.due("behind a text " + sign, faultOf("a" + sign), 1);
            EDGE.due("within a text " + sign, faultOf("&" + sign), isLetter(code) || opens ? 2 : 1);
            EDGE.due("its second text " + sign, faultOf("|b" + sign), isLetter(code) ? NONE : opens ? 3 : 2);
        }
        EDGE.due("the first of two", faultOf("&zz"), 1);
        EDGE.due("ahead of what is behind the text", faultOf("&m!ab"), 1);
        EDGE.due("behind the text, whatever it is", faultOf("&ab~"), 3);
        EDGE.due("behind the longest text there is no room", faultOf(LONGEST + "a"), NONE);
        EDGE.due("the last of 40", faultOf(LONGEST.substring(0, 39) + "m"), 39);
    }

    private static void faultsWithin() {
        EDGE.words("No text lies within more than 9 others.");
        EDGE.due("9 times !", faultOf("!".repeat(9) + "a"), NONE);
        EDGE.due("9 times &, to the left", faultOf("&".repeat(9) + "a".repeat(10)), NONE);
        EDGE.due("9 times |, to the right", faultOf("|a".repeat(9) + "b"), NONE);
        EDGE.due("on both sides", faultOf("&" + "!".repeat(8) + "a" + "!".repeat(8) + "b"), NONE);
        EDGE.due("in the last of many", faultOf("|a|b" + "!".repeat(7) + "c"), NONE);
        EDGE.words("(one that has texts of its own can not within 9 others)");
        EDGE.due("10 times !", faultOf("!".repeat(10) + "a"), 9);
        EDGE.due("10 times &, to the left", faultOf("&".repeat(10) + "a".repeat(11)), 9);
        EDGE.due("10 times |, to the right", faultOf("|a".repeat(10) + "b"), 18);
        EDGE.due("& within 9 times !", faultOf("!".repeat(9) + "&ab"), 9);
        EDGE.due("| within 9 times !", faultOf("!".repeat(9) + "|ab"), 9);
        EDGE.due("to the right alone", faultOf("&" + "!".repeat(8) + "a" + "!".repeat(9) + "b"), 18);
        EDGE.due("in the last of many", faultOf("|a|b" + "!".repeat(8) + "c"), 11);
        EDGE.due("another sign there", faultOf("!".repeat(9) + "m"), 9);
        EDGE.due("none there yet", faultOf("!".repeat(9)), 9);
    }

    private static void moreMustCome() {
        EDGE.words("the number of signs, if more must come");
        EDGE.due("no signs", faultOf(""), 0);
        EDGE.due("1", faultOf("!"), 1);
        EDGE.due("2", faultOf("&a"), 2);
        EDGE.due("2", faultOf("!&"), 2);
        EDGE.due("4", faultOf("|&ab"), 4);
        for (int i = 0; i < 40; i++) {
            EDGE.due("of the longest " + i, faultOf(LONGEST.substring(0, i)), i);
        }
        EDGE.due("the longest", faultOf(LONGEST), NONE);
        String tooLong = LONGEST.substring(0, 34) + "&a&a&a";
        EDGE.due("40, and more must come", faultOf(tooLong), 40);
        BrokeWhere x = new BrokeWhere();
        Made.say(x, tooLong);
        EDGE.due("there is no room for more", x.say('a'), FULL);
        EDGE.due("it is no truth", x.truth(), NO);
        EDGE.due("its signs stay", x.told(2), 40);
    }

    private static void truth() {
        EDGE.words("THE TRUTH is the signs' (they are empty then): how many.");
        BrokeWhere x = new BrokeWhere();
        Made.say(x, "l");
        EDGE.due("one sign", x.truth(), 1);
        EDGE.due("told(2)", x.told(2), 0);
        EDGE.due("told(3)", x.told(3), 1);
        Made.say(x, LONGEST);
        EDGE.due("the old one until then", x.fails(2048, 0), 1);
        EDGE.due("40 signs", x.truth(), 40);
        EDGE.due("told(2)", x.told(2), 0);
        EDGE.due("told(3)", x.told(3), 40);
        EDGE.due("the old one is gone", x.fails(2048, 0), 0);
        EDGE.due("a", x.fails(1, 0), 1);
        EDGE.due("a, b, c", x.fails(7, 0), 1);
        EDGE.due("a, b, c, d", x.fails(15, 0), 0);
        EDGE.due("none", x.fails(0, 0), 0);
        EDGE.words("NO: there is a FAULT.");
        EDGE.due("no signs", x.truth(), NO);
        EDGE.due("the truth stays", x.told(3), 40);
        Made.say(x, "ab");
        EDGE.due("too many", x.truth(), NO);
        EDGE.due("the signs stay", x.told(2), 2);
        EDGE.due("the truth stays", x.fails(1, 0), 1);
    }

    private static void texts() {
        EDGE.words("a letter a to l (whether that CHANGE is in the set, be it there or not)");
        BrokeWhere x = Made.chain(1, 1);
        for (int c = 0; c < 12; c++) {
            EDGE.due("letter", Made.tell(x, "" + (char) ('a' + c)), 1);
            for (int d = 0; d < 12; d++) {
                EDGE.due("letter " + c + " of " + d, x.fails(1 << d, 0), c == d ? 1 : 0);
            }
            EDGE.due("all", x.fails(4095, 0), 1);
            EDGE.due("none", x.fails(0, 0), 0);
        }
        EDGE.words("! and a text (not so); & or | and two texts (both; one at least)");
        String[] texts = {
            "!a", "!!a", "&ag", "|ag", "&!ag", "&a!g", "|!ag", "!|ag", "!&ag", "&aa", "|gg", "|a!a", "&g!g"
        };
        // bits for the four sets of a and g: 1 none, 2 a, 4 g, 8 both
        int[] due = {5, 10, 8, 14, 4, 2, 13, 1, 7, 10, 12, 15, 0};
        int[] sets = {0, 1, 64, 65};
        BrokeWhere y = new BrokeWhere();
        for (int i = 0; i < texts.length; i++) {
            Made.tell(y, texts[i]);
            for (int k = 0; k < 4; k++) {
                EDGE.due(texts[i] + " of " + sets[k], y.fails(sets[k], 0), due[i] >> k & 1);
            }
        }
    }

    private static void fails() {
        EDGE.words("OUTSIDE: bits 0 to 4095; STATE: no TRUTH (of 0).");
        BrokeWhere x = new BrokeWhere();
        EDGE.due("no truth", x.fails(0, 0), STATE);
        EDGE.due("no truth", x.fails(4095, 0), STATE);
        EDGE.due("sound, no truth", x.fails(0, 1), 1);
        EDGE.due("sound, no truth", x.fails(4095, 1), 1);
        EDGE.due("beyond", x.fails(4096, 0), OUTSIDE);
        EDGE.due("beyond, sound", x.fails(4096, 1), OUTSIDE);
        EDGE.due("below", x.fails(-1, 0), OUTSIDE);
        EDGE.due("below, sound", x.fails(-1, 1), OUTSIDE);
        Made.tell(x, "|l!a");
        EDGE.due("the least", x.fails(0, 0), 1);
        EDGE.due("the most", x.fails(4095, 0), 1);
        EDGE.due("all but l", x.fails(2047, 0), 0);
        EDGE.due("beyond", x.fails(4096, 0), OUTSIDE);
        EDGE.due("below", x.fails(-1, 0), OUTSIDE);
    }

    private static void sound() {
        EDGE.words("A set of CHANGES is SOUND, if for each of them all its NEEDS are in it.");
        BrokeWhere x = Made.apart(Made.times(12, 1));
        x.set(11, 2, 2047);
        x.set(6, 2, 32 + 1);
        x.set(5, 2, 16);
        EDGE.due("empty", x.fails(0, 1), 1);
        EDGE.due("all", x.fails(4095, 1), 1);
        for (int c = 0; c < 11; c++) {
            EDGE.due("11 without " + c, x.fails(4095 ^ 1 << c, 1), 0);
        }
        EDGE.due("all without 11", x.fails(2047, 1), 1);
        EDGE.due("6 with one of two", x.fails(64 + 32 + 16, 1), 0);
        EDGE.due("6 with the other one", x.fails(64 + 1, 1), 0);
        EDGE.due("6 with both, of which 5 needs more", x.fails(64 + 32 + 1, 1), 0);
        EDGE.due("6 with all", x.fails(64 + 32 + 16 + 1, 1), 1);
        EDGE.due("5 alone", x.fails(32, 1), 0);
        EDGE.due("5 and 4", x.fails(48, 1), 1);
        EDGE.due("4 alone: nothing needs to be needed", x.fails(16, 1), 1);
        x.set(5, 2, 0);
        EDGE.due("5 alone, when it needs nothing", x.fails(32, 1), 1);
        EDGE.due("changes that are not there need nothing", Made.chain(1).fails(4094, 1), 1);
    }

    private static void plays() {
        EDGE.words("all TESTS go");
        BrokeWhere x = Made.chain(1, 1);
        Made.tell(x, "b");
        Made.test(x, 1, true, 12);
        EDGE.due("half is enough", x.play(5), 0);
        EDGE.due("they are gone", x.told(1), 0);
        EDGE.due("they are gone", x.tested(0, 0), UNKNOWN);
        EDGE.words("it tells the truth");
        x.trust(0, 1);
        x.trust(1, 1);
        EDGE.due("nine tenths", x.play(9), 1);
        EDGE.due("version 0", x.tested(0, 0), 0);
        EDGE.due("it passed", x.tested(0, 1), 1);
        Made.tell(x, "a");
        EDGE.due("nine tenths", x.play(9), 1);
        EDGE.due("it failed", x.tested(0, 1), 0);
        EDGE.guess(x, 0, 0, NONE);
        EDGE.words("they stay");
        EDGE.due("told(1)", x.told(1), 1);
        EDGE.due("no deaf one", x.set(0, 3, 1), STATE);
        EDGE.due("untest", x.untest(), 0);
        EDGE.words("STATE: no TRUTH; NO: no VERSION can be tested.");
        BrokeWhere y = new BrokeWhere();
        EDGE.due("no truth", y.play(5), STATE);
        Made.tell(y, "a");
        EDGE.due("no versions", y.play(5), NO);
        y.version(-1, -1, 1);
        y.set(0, 3, 1);
        EDGE.due("it is deaf", y.play(5), NO);
        y.set(0, 3, 0);
        EDGE.due("it is sure", y.play(10), 0);
    }

    private static void playLimits() {
        EDGE.words("PLAY to a limit (1 to 10 tenths)");
        BrokeWhere x = Made.apart(1, 1);
        Made.tell(x, "a");
        EDGE.due("0", x.play(0), OUTSIDE);
        EDGE.due("1", x.play(1), 0);
        EDGE.due("10", x.play(10), 1);
        EDGE.due("11", x.play(11), OUTSIDE);
        EDGE.words("as long as ODDS of GUESS are less than the limit");
        for (int limit = 1; limit <= 10; limit++) {
            EDGE.due("half, to " + limit, x.play(limit), limit <= 5 ? 0 : 1);
        }
        int[] due = {0, 0, 0, 0, 0, 0, 0, 0, 0, 1, 2};
        for (int count = 2; count <= 12; count++) {
            BrokeWhere y = Made.apart(Made.times(count, 1));
            Made.tell(y, "" + (char) ('a' + count - 1));
            EDGE.due("one of " + count + ", to a tenth", y.play(1), due[count - 2]);
        }
        BrokeWhere z = Made.chain(7, 3);
        Made.tell(z, "b");
        EDGE.due("seven tenths", z.play(7), 0);
        EDGE.due("less than eight tenths", z.play(8), 1);
        EDGE.words("ODDS of GUESS are less than the limit");
        Made.faith(z, 0, 0, 0);
        EDGE.due("nothing is less than a tenth", z.play(1), 12);
    }

    private static void playTests() {
        EDGE.words("and there are not 12 TESTS");
        BrokeWhere x = Made.apart(Made.times(12, 1));
        Made.tell(x, "l");
        EDGE.due("one goes with each", x.play(10), 11);
        for (int t = 0; t < 11; t++) {
            EDGE.due("tested", x.tested(t, 0), t);
            EDGE.due("passed", x.tested(t, 1), 1);
        }
        EDGE.guess(x, 0, 11, NONE);
        x.trust(0, 5);
        x.trust(1, 5);
        EDGE.due("they tell nothing", x.play(10), 12);
        EDGE.due("told(1)", x.told(1), 12);
        EDGE.due("the last one", x.tested(11, 0), 0);
        EDGE.due("no more", x.test(0, true), FULL);
        BrokeWhere y = Made.chain(1, 1);
        y.set(0, 3, 1);
        Made.tell(y, "b");
        EDGE.due("nothing parts them", y.play(10), 12);
        EDGE.due("the only one", y.tested(11, 0), 1);
        EDGE.due("it failed", y.tested(11, 1), 0);
    }

    private static void playOrder() {
        EDGE.words("the VERSION of NEXT by HOPE is tested");
        BrokeWhere x = Made.chain(1, 1, 1, 1);
        Made.tell(x, "c");
        EDGE.due("0, 1, 2", x.play(10), 3);
        for (int t = 0; t < 3; t++) {
            EDGE.due("tested", x.tested(t, 0), t);
            EDGE.due("passed", x.tested(t, 1), t < 2 ? 1 : 0);
        }
        x.set(0, 1, 2);
        EDGE.due("1 is cheaper than 0", x.play(10), 2);
        EDGE.due("1", x.tested(0, 0), 1);
        EDGE.due("2", x.tested(1, 0), 2);
        x.untest();
        x.untest();
        x.set(1, 3, 1);
        EDGE.due("1 is deaf: 2, then 0", x.play(4), 2);
        EDGE.due("2", x.tested(0, 0), 2);
        EDGE.due("it failed", x.tested(0, 1), 0);
        EDGE.due("0", x.tested(1, 0), 0);
        EDGE.due("it passed", x.tested(1, 1), 1);
    }

    private static void outs() {
        EDGE.words("the fewest, of several the least sum of SIZES, then the least as bits");
        BrokeWhere x = Made.chain(9, 1, 1);
        Made.tell(x, "&a|bc");
        EDGE.out(x, 2, 1, 9);
        Made.tell(x, "&a&bc");
        EDGE.out(x, 2, 2, 1);
        x.set(1, 0, 2);
        EDGE.out(x, 2, 4, 1);
        x.set(2, 0, 9);
        x.set(1, 0, 9);
        EDGE.out(x, 2, 1, 9);
        BrokeWhere y = Made.chain(2, 2, 2, 2);
        Made.tell(y, "|&ab&cd");
        EDGE.out(y, 3, 5, 4);
        y.set(0, 0, 3);
        EDGE.out(y, 3, 6, 4);
        y.set(2, 0, 3);
        EDGE.out(y, 3, 10, 4);
        EDGE.words("CHANGES to take out of what it HAS");
        EDGE.out(y, 1, 2, 2);
        EDGE.out(y, 0, 0, 0);
        BrokeWhere all = Made.chain(Made.times(12, 9));
        Made.tell(all, "|||ab|cd|||ef|gh||ij|kl");
        EDGE.out(all, 11, 4095, 108);
        EDGE.out(all, 0, 1, 9);
        Made.tell(all, "l");
        EDGE.out(all, 11, 2048, 9);
        EDGE.out(all, 10, 0, 0);
    }

    private static void outsOfUnsound() {
        EDGE.words("so that what is left is SOUND and does not FAIL");
        BrokeWhere x = Made.chain(1, 2, 3);
        Made.tell(x, "a");
        x.set(1, 2, 1);
        EDGE.out(x, 2, 3, 3);
        x.set(2, 2, 2);
        EDGE.out(x, 2, 7, 6);
        BrokeWhere apart = Made.apart(4, 6);
        Made.tell(apart, "a");
        EDGE.out(apart, 1, 0, 0);
        // it passes, but what it needs is not there
        apart.set(1, 2, 1);
        EDGE.out(apart, 1, 2, 6);
    }

    private static void noOuts() {
        EDGE.words("NO: nothing does.");
        BrokeWhere x = Made.chain(1, 1);
        Made.tell(x, "|a!a");
        EDGE.out(x, 1, NO, NO);
        Made.tell(x, "!b");
        EDGE.out(x, 0, NO, NO);
        EDGE.out(x, 1, 0, 0);
        // b without a passes, but b needs a
        Made.tell(x, "|a!b");
        EDGE.out(x, 1, 1, 1);
        x.set(1, 2, 1);
        EDGE.out(x, 1, NO, NO);
    }

    private static void cores() {
        EDGE.words("how many (i = -1), the i-th, as bits; NONE (i below -1, too)");
        BrokeWhere x = Made.chain(1, 1, 1);
        Made.tell(x, "|c&ab");
        EDGE.cores(x, 2, 3, 4);
        int[] far = {-2, -3, 2, 3, 4095, 4096, MIN, MAX};
        for (int i : far) {
            EDGE.due("core(2, " + i + ")", x.core(2, i), NONE);
        }
        EDGE.words("SOUND sets of what it HAS that FAIL");
        EDGE.cores(x, 1, 3);
        EDGE.cores(x, 0);
        coresOfWhatItHas();
        Made.tell(x, "&a!a");
        EDGE.cores(x, 2);
        Made.tell(x, "l");
        EDGE.cores(x, 2);
        EDGE.words("(the empty one, too)");
        Made.tell(x, "!l");
        EDGE.cores(x, 2, 0);
        EDGE.cores(x, 0, 0);
        Made.tell(x, "|a!a");
        EDGE.cores(x, 2, 0);
        Made.tell(x, "|!a&ab");
        EDGE.cores(x, 2, 0);
        EDGE.words("UNKNOWN; STATE: no TRUTH.");
        EDGE.due("unknown", x.core(3, -1), UNKNOWN);
        EDGE.due("unknown", x.core(-1, -1), UNKNOWN);
        BrokeWhere y = Made.chain(1);
        EDGE.due("no truth", y.core(0, -1), STATE);
        EDGE.due("no truth", y.core(0, -2), STATE);
        EDGE.due("unknown ahead", y.core(1, -1), UNKNOWN);
    }

    private static void coresOfWhatItHas() {
        BrokeWhere x = Made.apart(Made.times(12, 1));
        for (int c = 0; c < 12; c++) {
            Made.tell(x, "" + (char) ('a' + c));
            EDGE.cores(x, c, 1 << c);
            EDGE.cores(x, (c + 1) % 12);
        }
    }

    private static void coresOfSound() {
        EDGE.words("but none of their parts that are SOUND does");
        BrokeWhere x = Made.chain(1, 1, 1, 1);
        Made.tell(x, "|b&ac");
        EDGE.cores(x, 3, 2, 5);
        // {b} fails, but is not sound: it is no part that counts
        x.set(1, 2, 1);
        EDGE.cores(x, 3, 3, 5);
        x.set(2, 2, 2);
        // c needs b, which needs a: all three have {a, b} as a part
        EDGE.cores(x, 3, 3);
        Made.tell(x, "&c!d");
        EDGE.cores(x, 3, 7);
        x.set(0, 2, 0);
        x.set(2, 2, 0);
        EDGE.cores(x, 3, 4);
        coresFarBelow();
    }

    /** A part that fails counts, though the sets between the two do not fail. */
    private static void coresFarBelow() {
        BrokeWhere x = Made.chain(Made.times(12, 1));
        for (int c = 0; c < 11; c++) {
            String both = "&" + (char) ('a' + c) + (char) ('b' + c);
            String none = "&!" + (char) ('a' + c) + "!" + (char) ('b' + c);
            Made.tell(x, "|" + both + none);
            EDGE.cores(x, 11, 0);
            int other = (c + 4) % 12;
            Made.tell(x, "&" + (char) ('a' + other) + "|" + both + none);
            EDGE.cores(x, 11, 1 << other);
        }
    }

    private static void manyCores() {
        EDGE.words("by numbers");
        BrokeWhere x = Made.chain(Made.times(12, 1));
        Made.tell(x, "|||ab|cd|||ef|gh||ij|kl");
        EDGE.cores(x, 11, 1, 2, 4, 8, 16, 32, 64, 128, 256, 512, 1024, 2048);
        EDGE.cores(x, 3, 1, 2, 4, 8);
        // one of each three: 3 * 3 * 3 * 3 of them
        Made.tell(x, "&&|a|bc|d|ef&|g|hi|j|kl");
        int[] due = new int[81];
        int[] steps = {1, 2, 4};
        for (int i = 0; i < 81; i++) {
            due[i] = steps[i % 3] + 8 * steps[i / 3 % 3] + 64 * steps[i / 9 % 3] + 512 * steps[i / 27];
        }
        EDGE.cores(x, 11, due);
        EDGE.due("without l", x.core(10, -1), 54);
        EDGE.due("none of the last three", x.core(8, -1), 0);
    }

    private static void told() {
        EDGE.words("NONE of these three: there is no such VERSION");
        BrokeWhere x = new BrokeWhere();
        int[] rows = {10, 30, 50};
        for (int row : rows) {
            for (int v = 0; v < 12; v++) {
                EDGE.due("told(" + (row + v) + ")", x.told(row + v), NONE);
            }
        }
        for (int v = 0; v < 12; v++) {
            x.version(-1, -1, 1 + v % 9);
            EDGE.due("size", x.told(10 + v), 1 + v % 9);
            EDGE.due("cost", x.told(30 + v), 1);
            EDGE.due("needs", x.told(50 + v), 0);
            int next = v + 1;
            for (int row : rows) {
                EDGE.due("beyond", x.told(row + next), next == 12 ? OUTSIDE : NONE);
            }
        }
        EDGE.words("10 to 21 SIZES, 30 to 41 COSTS, 50 to 61 NEEDS");
        int[] outside = {-1, 22, 29, 42, 49, 62, 70, MIN, MAX};
        for (int what : outside) {
            EDGE.due("told(" + what + ")", x.told(what), OUTSIDE);
        }
        for (int v = 0; v < 12; v++) {
            x.set(v, 0, 9);
            x.set(v, 1, 8);
            x.set(v, 2, (1 << v) - 1);
            EDGE.due("size", x.told(10 + v), 9);
            EDGE.due("cost", x.told(30 + v), 8);
            EDGE.due("needs", x.told(50 + v), (1 << v) - 1);
        }
    }

    private static void toldOfAll() {
        EDGE.words("2 signs, 3 signs of THE TRUTH, 4 to 8 what trust() sets, 9 DEAF VERSIONS, as bits");
        BrokeWhere x = new BrokeWhere();
        int[] first = {0, 0, 0, 0, 0, 0, 1, 0, 0, 0};
        for (int what = 0; what < 10; what++) {
            EDGE.due("at first, told(" + what + ")", x.told(what), first[what]);
        }
        for (int v = 0; v < 12; v++) {
            x.version(-1, -1, 1);
        }
        Made.test(x, 5, true, 12);
        Made.tell(x, LONGEST);
        Made.say(x, "~".repeat(40));
        int[] trusts = {5, 4, 9, 8, 7};
        for (int i = 0; i < 5; i++) {
            x.trust(i, trusts[i]);
        }
        for (int v = 0; v < 12; v++) {
            x.set(v, 3, 1);
        }
        int[] last = {12, 12, 40, 40, 5, 4, 9, 8, 7, 4095 - 32};
        for (int what = 0; what < 10; what++) {
            EDGE.due("at last, told(" + what + ")", x.told(what), last[what]);
        }
    }

    private static void lastCall() {
        EDGE.words("An object is used for at most 512 calls after it has been made");
        BrokeWhere x = Made.chain(1, 2, 3);
        Made.tell(x, "c");
        for (int call = 7; call <= 510; call++) {
            x.play(10);
        }
        EDGE.due("the call 511", x.guess(1), 2);
        EDGE.due("the call 512", x.out(2, 0), 4);
    }
}
