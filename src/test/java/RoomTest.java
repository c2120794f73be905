import java.lang.management.ManagementFactory;

/** Calls make no objects, so that a run of many calls stays in its room. */
final class RoomTest {
    private static final com.sun.management.ThreadMXBean THREADS =
            (com.sun.management.ThreadMXBean) ManagementFactory.getThreadMXBean();

    public static void main(String[] args) {
        for (int i = 0; i < 20; i++) {
            bytesOfCalls();
        }
        Check.due("bytes made by 512 calls", bytesOfCalls(), bytesOfNothing());
        Check.that("a new object is small", bytesOfObject() < 8000);
        Check.end("RoomTest");
    }

    private static long made() {
        return THREADS.getThreadAllocatedBytes(Thread.currentThread().getId());
    }

    private static long bytesOfNothing() {
        long before = made();
        return made() - before;
    }

    private static long bytesOfObject() {
        long before = made();
        TunnelPeace x = new TunnelPeace();
        long after = made();
        return after - before + x.count(0);
    }

    private static long bytesOfCalls() {
        TunnelPeace x = new TunnelPeace();
        for (int i = 0; i < 8; i++) {
            x.person(i % 7, i % 2);
        }
        long before = made();
        for (int i = 0; i < 12; i++) {
            callEach(x, i % 8);
        }
        return made() - before;
    }

    /** Forty-two calls. */
    private static void callEach(TunnelPeace x, int i) {
        x.guns(90);
        x.place(i % 6, 2 * i);
        x.listed(i);
        x.person(0, 0);
        x.of(i, i);
        x.change(i, 3, 60);
        x.who(i);
        x.two(i, 3);
        x.go(3);
        x.now(i);
        x.ahead(i, 2, 50);
        x.noise(100);
        x.stills(0);
        x.meets(i, 9999);
        x.lapses();
        x.placeFor(i, 40);
        x.kindFor(i, 40);
        x.seasonFor(i, 9999, 40);
        x.bagsFor(i, 40);
        x.leaveOut(20);
        x.sheet(i % 4, 8, 40);
        x.write(i % 4, 0, 7);
        x.fits(i % 4, i);
        x.kinds(i % 4, i);
        x.copy(i % 4, 0, i % 4, 1, 3);
        x.load(i % 4);
        x.judge(i % 4);
        x.stroll(4);
        x.odds(i, 15, 0);
        x.seed(i);
        x.wipe();
        x.feed('g' << 24 | 'u' << 16 | 'n' << 8 | 's', 4);
        x.feed('3', 1);
        x.text();
        x.hold(i, i);
        x.as(i, 0);
        x.image();
        x.undo();
        x.tear();
        x.count(i);
        x.status(-1);
        x.text();
    }
}
