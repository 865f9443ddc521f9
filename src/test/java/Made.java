/** Objects made for tests, and what can be seen of one. */
final class Made {
    private Made() {
    }

    /** A row of versions, each on the one ahead of it, with these sizes. */
    static BrokeWhere chain(int... sizes) {
        BrokeWhere x = new BrokeWhere();
        for (int i = 0; i < sizes.length; i++) {
            x.version(i - 1, -1, sizes[i]);
        }
        return x;
    }

    /** Versions on none. */
    static BrokeWhere apart(int... sizes) {
        BrokeWhere x = new BrokeWhere();
        for (int size : sizes) {
            x.version(-1, -1, size);
        }
        return x;
    }

    /** As many sizes, all the same. */
    static int[] times(int count, int size) {
        int[] sizes = new int[count];
        java.util.Arrays.fill(sizes, size);
        return sizes;
    }

    static void say(BrokeWhere x, String text) {
        for (int i = 0; i < text.length(); i++) {
            x.say(text.charAt(i));
        }
    }

    static int tell(BrokeWhere x, String text) {
        x.wipe();
        say(x, text);
        return x.truth();
    }

    static void test(BrokeWhere x, int version, boolean passed, int times) {
        for (int i = 0; i < times; i++) {
            x.test(version, passed);
        }
    }

    static void faith(BrokeWhere x, int one, int both, int mended) {
        x.trust(2, one);
        x.trust(3, both);
        x.trust(4, mended);
    }

    /** All that an object holds, as far as calls tell it, as one text; some 180 calls. */
    static String all(BrokeWhere x) {
        StringBuilder s = new StringBuilder();
        for (int what = 0; what < 62; what++) {
            s.append(x.told(what)).append(' ');
        }
        for (int i = 0; i < 12; i++) {
            s.append(x.tested(i, 0)).append(' ').append(x.tested(i, 1)).append(' ');
            s.append(x.has(i)).append(' ').append(x.twins(i)).append(' ');
            s.append(x.weight(0, i, 0)).append(' ').append(x.weight(2, i, 0)).append(' ');
        }
        int every = (1 << x.told(0)) - 1;
        s.append(x.worst(every, 0)).append(' ').append(x.mean(every, 0)).append(' ').append(x.mean(every, 1));
        for (int c = 0; c < 12; c++) {
            s.append(' ').append(x.fails(1 << c, 0)).append(' ').append(x.fails(4095 ^ 1 << c, 0));
        }
        return s.append(' ').append(x.fault()).toString();
    }
}
