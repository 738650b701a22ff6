import java.lang.management.ManagementFactory;

/** The dearest calls, 512 times each, make so little that all calls of a run fit into one room. */
public final class RoomTest {
    private static final int CALLS = 512;
    private static final long MOST_BYTES = 2_000_000L;

    public static void main(String[] args) {
        Checks checks = new Checks("RoomTest");
        Miceline line = full();
        checks.due("digest() keeps to the room", true, bytesOf(() -> line.digest()) < MOST_BYTES);
        checks.due("isSound() keeps to the room", true, bytesOf(() -> line.isSound() ? 1 : 0) < MOST_BYTES);
        checks.due("danger() keeps to the room", true, bytesOf(() -> line.danger(255, 15)) < MOST_BYTES);
        checks.due("sight() keeps to the room", true, bytesOf(() -> line.sight().length()) < MOST_BYTES);
        checks.end();
    }

    private static Miceline full() {
        Miceline line = new Miceline();
        for (int k = 0; k < 8; k++) {
            line.section(5);
        }
        for (int k = 0; k < 4; k++) {
            line.route(2 * k, 2 * k + 1, -1);
            line.pull(k);
        }
        for (int k = 0; k < 10; k++) {
            line.train(k % 4, 6, 5);
        }
        for (int k = 0; k < 4; k++) {
            line.enter(k);
            line.go(k, 6);
        }
        return line;
    }

    private static long bytesOf(Checks.Call call) {
        com.sun.management.ThreadMXBean threads =
                (com.sun.management.ThreadMXBean) ManagementFactory.getThreadMXBean();
        long self = Thread.currentThread().getId();
        long before = threads.getThreadAllocatedBytes(self);
        for (int k = 0; k < CALLS; k++) {
            call.answer();
        }
        return threads.getThreadAllocatedBytes(self) - before;
    }
}
