import com.sun.management.ThreadMXBean;
import java.lang.management.ManagementFactory;

/** All calls of a run live in one room: an object is small, and no call makes anything. */
public final class RoomTest {
    private static final ThreadMXBean THREADS = (ThreadMXBean) ManagementFactory.getThreadMXBean();

    public static void main(String[] args) {
        everyCall(new ComposedInterval());
        long before = made();
        ComposedInterval x = new ComposedInterval();
        long one = made() - before;
        before = made();
        for (int i = 0; i < 4; i++) {
            everyCall(x);
        }
        long calls = made() - before;
        System.out.println("an object makes " + one + " bytes, four rounds of all calls " + calls);
        // Some slack for what the machine itself may make while it runs.
        if (one > 16384 || calls > 4096) {
            System.exit(1);
        }
    }

    private static long made() {
        return THREADS.getThreadAllocatedBytes(Thread.currentThread().getId());
    }

    private static void everyCall(ComposedInterval x) {
        for (int p = 0; p < 9; p++) {
            x.person(p % 6, p);
        }
        x.score(1, 7);
        x.bell(1, 30);
        for (int what = 0; what < 10; what++) {
            x.now(what);
            x.of(1, what);
            x.who(what);
            x.set(2, what, 3);
            x.count(what);
            x.status(what - 1);
        }
        x.turn(3, 4);
        x.as(3, 2);
        x.minutes(50);
        x.on(1, 300, 0);
        x.harmony(300);
        x.comes(1, 5);
        x.plays(2);
        x.meet(1, 2);
        x.begin(1, 100);
        x.kind(1, 100);
        x.quick(1, 100, 50);
        x.compose(1, 100);
        x.deceive(1, 60);
        x.worst(300);
        x.feed(0x73636f72, 4);
        x.feed(0x65312034, 4);
        x.interval();
        x.feed(0x73636f72, 4);
        x.wipe();
        x.sheet(0, 8, 40);
        x.sheet(1, 8, 40);
        x.write(0, 1, 5L);
        x.book(0, 1);
        x.copy(0, 0, 1, 1, 39);
        x.lays(1);
        x.read(0, 1);
        x.image();
        x.undo();
        x.tear();
    }
}
