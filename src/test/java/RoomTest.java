import java.lang.management.ManagementFactory;

/** The room that the dearest calls take, and calls beyond the 512th, which may answer anything but must end. */
public final class RoomTest {
    private static final long MOST_BYTES = 4_000_000L;
    private static final String[] ALLOWED = {"throws.IndexOutOfBoundsException", "throws.IllegalArgumentException",
        "throws.IllegalStateException"};

    private static final Check CHECK = new Check();

    public static void main(String[] args) {
        dearCallsTakeLittleRoom();
        manyObjectsTakeLittleRoom();
        callsBeyondTheLastEnd();
        CHECK.end("RoomTest");
    }

    private static Alarmgrove full() {
        Alarmgrove x = new Alarmgrove();
        for (int node = 0; node < 14; node++) {
            x.raise(node);
        }
        return x;
    }

    private static void dearCallsTakeLittleRoom() {
        Alarmgrove x = full();
        long before = bytes();
        for (int call = 0; call < 512; call++) {
            x.causeByTrying(13);
            x.cause(13);
            x.causeOf(13);
            x.greedyCause(13);
        }
        CHECK.due("room of 4 times 512 dear calls is small", bytes() - before < MOST_BYTES, true);
    }

    private static void manyObjectsTakeLittleRoom() {
        long before = bytes();
        for (int call = 0; call < 256; call++) {
            new Alarmgrove().now();
        }
        CHECK.due("room of 256 objects is small", bytes() - before < 2 * MOST_BYTES, true);
    }

    private static void callsBeyondTheLastEnd() {
        Alarmgrove x = full();
        for (int call = 0; call < 100_000; call++) {
            int node = call % 14;
            dueOrdinary(Check.outcome(() -> x.tick(100)));
            dueOrdinary(Check.outcome(() -> x.raise(node)));
            dueOrdinary(Check.outcome(() -> x.clear(node)));
            dueOrdinary(Check.outcome(() -> x.state(node)));
        }
    }

    private static void dueOrdinary(String outcome) {
        boolean isAllowed = !outcome.startsWith("throws.");
        for (String one : ALLOWED) {
            isAllowed |= outcome.equals(one);
        }
        CHECK.due("outcome " + outcome + " is allowed", isAllowed, true);
    }

    private static long bytes() {
        return ((com.sun.management.ThreadMXBean) ManagementFactory.getThreadMXBean()).getCurrentThreadAllocatedBytes();
    }
}
