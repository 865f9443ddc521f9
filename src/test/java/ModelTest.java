import java.util.Random;

/** Random runs of calls, each answer held against the model's; then everything that can be asked is asked. */
public final class ModelTest {
    private static final int RUNS = 160;
    private static final int CALLS = 512;
    private final Check check;
    private final Random random;
    private final BrokeWhere x = new BrokeWhere();
    private final Model m = new Model();
    private final int seed;
    private final int shape;

    private ModelTest(Check check, int seed) {
        this.check = check;
        this.seed = seed;
        this.shape = seed % 4;
        this.random = new Random(seed);
    }

    public static void main(String[] args) {
        Check check = new Check("ModelTest");
        for (int seed = 1; seed <= RUNS && !check.failed(); seed++) {
            new ModelTest(check, seed).run();
        }
        check.end();
    }

    private void due(String call, long got, long want) {
        check.due("seed " + seed + " " + call, got, want);
    }

    private int any(int least, int most) {
        return least + random.nextInt(most - least + 1);
    }

    private void run() {
        grow(any(0, 12));
        for (int i = 0; i < CALLS && !check.failed(); i++) {
            step();
        }
        askAll();
    }

    /** Versions in a row, in two rows that are joined, at random, or each for itself. */
    private void grow(int count) {
        for (int i = 0; i < count; i++) {
            int last = m.n() - 1;
            int on = last;
            int other = -1;
            if (shape == 1 && last >= 1) {
                on = last - 1;
                other = random.nextInt(4) == 0 ? last : -1;
            } else if (shape == 2) {
                on = any(-1, last);
                other = on < 0 ? -1 : any(-1, last);
            } else if (shape == 3) {
                on = random.nextInt(5) == 0 ? last : -1;
            }
            version(on, other, any(1, 9));
        }
    }

    private void version(int on, int other, int size) {
        due("version(" + on + ", " + other + ", " + size + ")", x.version(on, other, size), m.version(on, other, size));
    }

    /** A number from far away, where the machine's arithmetic wraps round. */
    private int far() {
        return switch (random.nextInt(4)) {
            case 0 -> Integer.MIN_VALUE + random.nextInt(3);
            case 1 -> Integer.MAX_VALUE - random.nextInt(3);
            case 2 -> 1 << random.nextInt(32);
            default -> random.nextInt();
        };
    }

    private boolean rarely() {
        return random.nextInt(40) == 0;
    }

    private int change() {
        if (rarely()) {
            return far();
        }
        return random.nextInt(12) == 0 ? any(-2, 13) : any(0, Math.max(0, m.n() - 1));
    }

    private int part() {
        if (rarely()) {
            return far();
        }
        return random.nextInt(12) == 0 ? any(-1, 2) : any(0, 1);
    }

    private void step() {
        switch (random.nextInt(20)) {
            case 0 -> version(rarely() ? far() : any(-2, 12), rarely() ? far() : any(-2, 12), any(0, 10));
            case 1, 2 -> change(change());
            case 3 -> trusting();
            case 4, 5, 6 -> testing();
            case 7 -> text();
            case 8 -> play();
            case 9 -> signs();
            default -> ask();
        }
    }

    private void change(int v) {
        int what = rarely() ? far() : any(-1, 4);
        int to = what == 2 ? any(-1, 1 << Math.max(0, Math.min(v, 12))) & any(-1, 4095) : any(-1, 10);
        if (rarely()) {
            to = far();
        } else if (what == 3) {
            to = random.nextInt(10) == 0 ? any(-1, 2) : any(0, 3) / 3;
        }
        due("set(" + v + ", " + what + ", " + to + ")", x.set(v, what, to), m.set(v, what, to));
    }

    private void trusting() {
        int which = rarely() ? far() : any(-1, 5);
        int v = rarely() ? far() : any(-1, which < 2 ? 6 : 10);
        due("trust(" + which + ", " + v + ")", x.trust(which, v), m.trust(which, v));
    }

    private void testing() {
        if (random.nextInt(3) == 0) {
            due("untest()", x.untest(), m.untest());
        } else {
            int v = change();
            boolean passed = random.nextBoolean();
            due("test(" + v + ", " + passed + ")", x.test(v, passed), m.test(v, passed));
        }
    }

    private void say(int sign) {
        due("say(" + sign + ")", x.say(sign), m.say(sign));
    }

    /** A text said as a whole, at times a wrong one. */
    private void text() {
        due("wipe()", x.wipe(), m.wipe());
        String made = made(any(0, 10), any(1, 9));
        if (random.nextInt(4) == 0) {
            int at = random.nextInt(made.length() + 1);
            made = made.substring(0, at) + (char) any(33, 126) + made.substring(at);
        }
        for (int i = 0; i < made.length(); i++) {
            say(made.charAt(i));
        }
        due("fault()", x.fault(), m.fault());
        due("truth()", x.truth(), m.truth());
    }

    private String made(int deep, int thick) {
        if (deep == 0 || random.nextInt(12) > thick + 2) {
            return "" + (char) any('a', 'l');
        }
        return switch (random.nextInt(3)) {
            case 0 -> "!" + made(deep - 1, thick);
            case 1 -> "&" + made(deep - 1, thick - 2) + made(deep - 1, thick - 2);
            default -> "|" + made(deep - 1, thick - 2) + made(deep - 1, thick - 2);
        };
    }

    private void signs() {
        String often = "!&|abcdefghijklm!&|";
        int count = any(1, 14);
        for (int i = 0; i < count; i++) {
            int usual = random.nextInt(15) == 0 ? any(30, 130) : often.charAt(random.nextInt(often.length()));
            say(rarely() ? far() : usual);
            due("fault()", x.fault(), m.fault());
        }
        if (random.nextInt(3) > 0) {
            due("wipe()", x.wipe(), m.wipe());
        }
    }

    private void play() {
        if (random.nextInt(3) == 0) {
            int limit = rarely() ? far() : any(0, 11);
            due("play(" + limit + ")", x.play(limit), m.play(limit));
            for (int t = 0; t < 13; t++) {
                due("tested(" + t + ", 0)", x.tested(t, 0), m.tested(t, 0));
                due("tested(" + t + ", 1)", x.tested(t, 1), m.tested(t, 1));
            }
        }
    }

    private void ask() {
        int a = change();
        int b = change();
        int p = part();
        int sort = rarely() ? far() : random.nextInt(12) == 0 ? any(-1, 3) : any(0, 2);
        int set = rarely() ? far() : random.nextInt(8) == 0 ? any(-2, 4200) : any(0, 4095) & ((1 << m.n()) - 1);
        switch (random.nextInt(17)) {
            case 0 -> due("has " + a, x.has(a), m.has(a));
            case 1 -> due("tested " + a + " " + p, x.tested(a, p), m.tested(a, p));
            case 2 -> due("weight " + sort + " " + a + " " + b, x.weight(sort, a, b), m.weight(sort, a, b));
            case 3 -> due("odds " + sort + " " + a + " " + b, x.odds(sort, a, b, p), m.odds(sort, a, b, p));
            case 4 -> due("sorts " + sort + " " + p, x.sorts(sort, p), m.sorts(sort, p));
            case 5 -> due("blame " + a + " " + p, x.blame(a, p), m.blame(a, p));
            case 6 -> due("guess " + sort, x.guess(sort), m.guess(sort));
            case 7 -> due("hope " + a + " " + p, x.hope(a, p), m.hope(a, p));
            case 8 -> due("next " + p, x.next(p), m.next(p));
            case 9 -> due("worst " + set + " " + p, x.worst(set, p), m.worst(set, p));
            case 10 -> due("mean " + set + " " + p, x.mean(set, p), m.mean(set, p));
            case 11 -> due("twins " + a, x.twins(a), m.twins(a));
            case 12 -> due("fault", x.fault(), m.fault());
            case 13 -> due("fails " + set + " " + p, x.fails(set, p), m.fails(set, p));
            case 14 -> due("out " + a + " " + p, x.out(a, p), m.out(a, p));
            case 15 -> due("core " + a + " " + b, x.core(a, b - 2), m.core(a, b - 2));
            default -> due("told " + (set & 63), x.told(set & 63), m.told(set & 63));
        }
    }

    private void askAll() {
        for (int what = -2; what < 70; what++) {
            due("told(" + what + ")", x.told(what), m.told(what));
        }
        for (int v = -1; v < 13; v++) {
            due("twins(" + v + ")", x.twins(v), m.twins(v));
            for (int p = -1; p < 3; p++) {
                due("blame(" + v + ", " + p + ")", x.blame(v, p), m.blame(v, p));
                due("hope(" + v + ", " + p + ")", x.hope(v, p), m.hope(v, p));
                due("out(" + v + ", " + p + ")", x.out(v, p), m.out(v, p));
            }
            int cores = Math.min(12, m.core(v, -1));
            for (int i = -3; i <= cores; i++) {
                due("core(" + v + ", " + i + ")", x.core(v, i), m.core(v, i));
            }
        }
        for (int sort = -1; sort < 4; sort++) {
            for (int a = -1; a < 13; a++) {
                for (int b = -1; b < 13; b++) {
                    due("weight(" + sort + ", " + a + ", " + b + ")", x.weight(sort, a, b), m.weight(sort, a, b));
                }
            }
        }
        for (int what = -1; what < 4; what++) {
            due("guess(" + what + ")", x.guess(what), m.guess(what));
            due("next(" + what + ")", x.next(what), m.next(what));
        }
    }
}
