import com.sun.management.ThreadMXBean;
import java.lang.management.ManagementFactory;

/** What a run makes stays far below the room that all calls of one run share. */
public final class RoomTest {
    // The room is 7.3 million fields and elements; a hundred objects may take a seventh of it.
    private static final long MOST_ELEMENTS_OF_OBJECT = 10000;
    private static final int CALLS = 512;

    public static void main(String[] args) {
        Check check = new Check("RoomTest");
        ThreadMXBean room = (ThreadMXBean) ManagementFactory.getThreadMXBean();
        calls(new BrokeWhere());
        long start = room.getCurrentThreadAllocatedBytes();
        BrokeWhere x = new BrokeWhere();
        long made = room.getCurrentThreadAllocatedBytes() - start;
        check.so("a new object takes " + made + " bytes", made <= 8 * MOST_ELEMENTS_OF_OBJECT);
        start = room.getCurrentThreadAllocatedBytes();
        calls(x);
        made = room.getCurrentThreadAllocatedBytes() - start;
        check.so("calls make nothing, but took " + made + " bytes", made <= 1000);
        check.end();
    }

    private static void calls(BrokeWhere x) {
        for (int i = 0; i < 12; i++) {
            x.version(i - 1, -1, 1 + i % 9);
        }
        for (int t = 0; t < 3; t++) {
            x.trust(2 + t, 9);
        }
        x.say('&');
        x.say('a');
        x.say('l');
        x.truth();
        for (int i = 0; i < CALLS / 8; i++) {
            x.set(i % 12, 1, 1 + i % 9);
            x.worst(4095, i % 2);
            x.mean(4095, i % 2);
            x.play(10);
            x.out(11, i % 2);
            x.core(11, i - 1);
            x.odds(2, i % 12, (i + 1) % 12, 0);
            x.next(i % 2);
        }
    }
}
