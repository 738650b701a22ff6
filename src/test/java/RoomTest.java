import java.lang.management.ManagementFactory;

/** The dearest calls, 512 times each, make so little that all calls of a run fit into one room. */
public final class RoomTest {
    private static final int CALLS = 512;
    private static final long MOST_BYTES = 2_000_000L;
    private static final long MOST_BYTES_OF_A_LINE = 40_000L;

    public static void main(String[] args) {
        Checks checks = new Checks("RoomTest");
        Miceline line = full();
        checks.due("digest() keeps to the room", true, bytesOf(() -> line.digest()) < MOST_BYTES);
        checks.due("isSound() keeps to the room", true, bytesOf(() -> line.isSound() ? 1 : 0) < MOST_BYTES);
        checks.due("danger() keeps to the room", true, bytesOf(() -> line.danger(255, 15)) < MOST_BYTES);
        checks.due("sight() keeps to the room", true, bytesOf(() -> line.sight().length()) < MOST_BYTES);
        long ofLines = bytesOf(() -> new Miceline().line(0));
        checks.due("a new line keeps to the room", true, ofLines < CALLS * MOST_BYTES_OF_A_LINE);
        checks.end();
    }

    /** The full line, with a train of each ROUTE on the way. */
    private static Miceline full() {
        Miceline line = Lines.full();
        for (int train = 0; train < 4; train++) {
            line.enter(train);
            line.go(train, 6);
        }
        return line;
    }

    private static long bytesOf(Checks.Call call) {
        com.sun.management.ThreadMXBean threads =
                (com.sun.management.ThreadMXBean) ManagementFactory.getThreadMXBean();
        long self = Thread.currentThread().getId();
        long before = threads.getThreadAllocatedBytes(self);
        for (int k = 0; k < CALLS; k++) {
            call.answer();
        }
        return threads.getThreadAllocatedBytes(self) - before;
    }
}
