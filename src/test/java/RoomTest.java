import com.sun.management.ThreadMXBean;
import java.lang.management.ManagementFactory;

/** All calls of one run live in one room: an object is small, and no call makes another object. */
public final class RoomTest {
    private static final Due DUE = new Due("room");
    private static final ThreadMXBean BEAN = (ThreadMXBean) ManagementFactory.getThreadMXBean();
    /** Those of calls are 0; some are left to the machine's own doings. */
    private static final int MOST_BYTES_OF_ONE = 40_000, MOST_BYTES_OF_CALLS = 1_000;

    public static void main(String[] args) {
        for (int warm = 0; warm < 3; warm++) {
            callAll(new DodgemDebate());
            BEAN.getCurrentThreadAllocatedBytes();
        }
        long before = BEAN.getCurrentThreadAllocatedBytes();
        DodgemDebate d = new DodgemDebate();
        long made = BEAN.getCurrentThreadAllocatedBytes();
        callAll(d);
        long called = BEAN.getCurrentThreadAllocatedBytes();
        DUE.is("a new object is small: " + (made - before) + " bytes", made - before < MOST_BYTES_OF_ONE ? 1 : 0, 1);
        DUE.is("calls make no objects: " + (called - made) + " bytes", called - made < MOST_BYTES_OF_CALLS ? 1 : 0, 1);
        DUE.end();
    }

    private static final byte[] CARS = {'b', '0', '0', 'e', '5', ';', 'h', '3', '0', 'e', '3', ';', 'm', '2', '2', 's', '4'};
    private static final byte[] STEERS = {'c', '0', 'l', ';', 'x', '1', 'r'};

    private static void callAll(DodgemDebate d) {
        for (byte b : CARS) {
            d.type(0, b);
        }
        for (byte b : STEERS) {
            d.type(1, b);
        }
        d.event(0, 3, 0);
        d.event(1, 9, 1);
        d.sheet(0, 0, 60);
        d.sheet(1, 0, 24);
        d.put(0, 0, 1, 7);
        d.read(0);
        d.write(0, 1);
        d.copy(1, 0, 0, 5, 12);
        d.get(0, 2, 0);
        d.seen(2, 0, 2, 1);
        ask(d);
        d.digest();
        d.forget();
        d.back();
        d.undo(0);
        d.undo(1);
        d.fault(0);
        d.lose(0);
        d.digest();
        d.wipe(0);
        d.wipe(1);
        d.digest();
    }

    private static void ask(DodgemDebate d) {
        for (int n = -1; n < 4; n++) {
            d.car(n, n);
            d.steer(n, n);
            d.at(n, n, n);
            d.who(n, n, n);
            d.house(n, n);
            d.first(n);
            d.jam(n);
            d.stand(n, n);
            d.better(n, n, n);
            d.ring(n);
            d.spare(n);
            d.was(n, n);
            d.ask(n);
            d.chance(n, n, n);
            d.ages(n, n, n);
            d.count(n);
        }
        d.strikes();
        d.best();
        d.meek();
        d.carried();
        d.never();
    }
}
