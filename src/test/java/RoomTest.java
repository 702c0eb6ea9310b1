import java.lang.management.ManagementFactory;

/** All calls of a run live in one room: the calls make no objects, and an object of the class stays small. */
public final class RoomTest {
    private static final com.sun.management.ThreadMXBean THREADS =
            (com.sun.management.ThreadMXBean) ManagementFactory.getThreadMXBean();

    private static final long ORDERS = Text.number("t0=3;m;m");

    /** What the measuring itself, and the first use of a class, may make. */
    private static final long ALLOWED = 20000;

    public static void main(String[] args) {
        run(new ShadowRows());
        long before = made();
        ShadowRows x = new ShadowRows();
        long object = made() - before;
        before = made();
        run(x);
        long calls = made() - before;
        Due.isTrue("an object takes " + object + " bytes, far below a hundredth of the room", object < 150000);
        Due.isTrue("512 calls took " + calls + " bytes", calls < ALLOWED);
        Due.end();
    }

    private static long made() {
        return THREADS.getThreadAllocatedBytes(Thread.currentThread().getId());
    }

    /** 512 calls, the dearest ones among them, in the dearest state: six rows with all rights. */
    private static void run(ShadowRows x) {
        for (int row = 0; row < 6; row++) {
            x.row(3 * row, 20, 4);
        }
        for (int hour = 0; hour < 10; hour++) {
            for (int row = 0; row < 6; row++) {
                x.grant(row, (row + 1) % 6, hour, 999);
                x.grant(row, (row + 2) % 6, hour, 999);
            }
        }
        for (int i = 0; i < 16; i++) {
            oneOfEach(x, i);
        }
    }

    /** 24 calls. */
    private static void oneOfEach(ShadowRows x, int i) {
        x.tilt(i % 6, i % 5);
        x.wind(i % 10, i % 7);
        x.stow(10);
        x.grant(0, 1, i % 10, i);
        x.ask(1, 4, 20, i);
        x.bid(0, 1, 4, 10, i);
        x.match();
        x.takeBack(0, 0);
        x.ofRow(2, 8);
        x.inHour(2, 4, 3);
        x.over(0, 1, 4, 1);
        x.offer(0, 0, 2);
        x.count(3);
        x.worth(0, 1, 4, 999, 2);
        x.bestTilt(3, 0);
        x.bestTilts(9);
        x.put(ORDERS);
        x.fault();
        x.carryOut();
        x.wipe();
        x.save(i % 2);
        x.restore(i % 2);
        x.undo();
        x.bestTilts(0);
    }
}
