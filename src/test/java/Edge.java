/** Answers that are due by words of the document, which are told with each that is not as due. */
final class Edge {
    static final int MIN = Integer.MIN_VALUE, MAX = Integer.MAX_VALUE;
    static final int NONE = -6, UNKNOWN = -1, OUTSIDE = -2, STATE = -3, FULL = -4, NO = -5;
    static final long LOST = -1000000000000000000L;
    private final Check check;
    private String words = "";

    Edge(String name) {
        check = new Check(name);
    }

    /** The words that the answers from here on stand for. */
    void words(String itsWords) {
        words = itsWords;
    }

    void due(String call, long got, long want) {
        check.due("'" + words + "': " + call, got, want);
    }

    void fraction(String call, long upper, long lower, long wantUpper, long wantLower) {
        due(call + ", upper", upper, wantUpper);
        due(call + ", lower", lower, wantLower);
    }

    void odds(BrokeWhere x, int sort, int first, int second, long upper, long lower) {
        String call = "odds(" + sort + ", " + first + ", " + second + ")";
        fraction(call, x.odds(sort, first, second, 0), x.odds(sort, first, second, 1), upper, lower);
    }

    void sorts(BrokeWhere x, int sort, long upper, long lower) {
        fraction("sorts(" + sort + ")", x.sorts(sort, 0), x.sorts(sort, 1), upper, lower);
    }

    void blame(BrokeWhere x, int change, long upper, long lower) {
        fraction("blame(" + change + ")", x.blame(change, 0), x.blame(change, 1), upper, lower);
    }

    void hope(BrokeWhere x, int version, long upper, long lower) {
        fraction("hope(" + version + ")", x.hope(version, 0), x.hope(version, 1), upper, lower);
    }

    void guess(BrokeWhere x, int sort, int first, int second) {
        due("guess(0)", x.guess(0), sort);
        due("guess(1)", x.guess(1), first);
        due("guess(2)", x.guess(2), second);
    }

    void worst(BrokeWhere x, int set, int tests, int start) {
        due("worst(" + set + ", 1)", x.worst(set, 1), start);
        due("worst(" + set + ", 0)", x.worst(set, 0), tests);
    }

    void mean(BrokeWhere x, int set, int sum, int start) {
        due("mean(" + set + ", 1)", x.mean(set, 1), start);
        due("mean(" + set + ", 0)", x.mean(set, 0), sum);
    }

    void out(BrokeWhere x, int version, int set, int sizes) {
        due("out(" + version + ", 0)", x.out(version, 0), set);
        due("out(" + version + ", 1)", x.out(version, 1), sizes);
    }

    /** Just these cores, in this order. */
    void cores(BrokeWhere x, int version, int... sets) {
        due("core(" + version + ", -1)", x.core(version, -1), sets.length);
        for (int i = 0; i < sets.length; i++) {
            due("core(" + version + ", " + i + ")", x.core(version, i), sets[i]);
        }
        due("core(" + version + ", " + sets.length + ")", x.core(version, sets.length), NONE);
    }

    void end() {
        check.end();
    }
}
