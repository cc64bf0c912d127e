import java.lang.management.ManagementFactory;

/** A run's calls live in one room: no call makes an object, and a new object stays small. */
public final class RoomTest {
    private static final int MOST_BYTES_OF_ONE = 8000;
    private static final Due DUE = new Due("RoomTest");
    private static final com.sun.management.ThreadMXBean THREADS =
        (com.sun.management.ThreadMXBean) ManagementFactory.getThreadMXBean();
    private static final QuarterTurns[] MADE = new QuarterTurns[100];

    public static void main(String[] args) {
        // Once ahead, so that loading classes does not count.
        allCalls(new QuarterTurns());
        bytes();
        long before = bytes();
        for (int i = 0; i < MADE.length; i++) {
            MADE[i] = new QuarterTurns();
        }
        long one = (bytes() - before) / MADE.length;
        DUE.holds("a new object takes " + one + " bytes", one <= MOST_BYTES_OF_ONE);
        before = bytes();
        for (QuarterTurns x : MADE) {
            allCalls(x);
        }
        long calls = (bytes() - before) / MADE.length;
        DUE.holds("all calls together take " + calls + " bytes", calls < 16);
        DUE.end();
    }

    private static long bytes() {
        return THREADS.getCurrentThreadAllocatedBytes();
    }

    private static long allCalls(QuarterTurns x) {
        x.clear();
        x.type('s');
        x.type('6');
        x.type(' ');
        x.type('2');
        x.type(';');
        long sum = x.bed() + x.hollows(40, 3, 7) + x.lie(1, 2) + x.turned(7, 8) + x.now(4) + x.makes(1);
        for (int i = 0; i < 12; i++) {
            sum += x.season() + x.makes(i) + x.stuffs(i) + x.again(i) + x.lasts(i) + x.rate(4, i) + x.rate(3, i) + x.rate(5, i);
            sum += x.odds(i, 3, 6, 2, 1) + x.plan(4, 3) + x.round(4095, i) + x.round(200, i) + x.reach(1 << i);
        }
        sum += x.keep(0) + x.undo() + x.back(0) + x.all() + x.byTurns(0) + x.same() + x.latest() + x.most() + x.which();
        return sum + x.forget() + x.count(2) + x.trace();
    }
}
