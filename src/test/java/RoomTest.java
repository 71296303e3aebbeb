import java.lang.management.ManagementFactory;

/** No call makes objects: all calls of a run live in one room. */
public final class RoomTest {
    private static long allocated() {
        com.sun.management.ThreadMXBean threads =
                (com.sun.management.ThreadMXBean) ManagementFactory.getThreadMXBean();
        return threads.getThreadAllocatedBytes(Thread.currentThread().getId());
    }

    private static void calls(FloatWriter writer) {
        for (int i = 0; i < 42; i++) {
            writer.print(1 + i, false);
            writer.hexadecimal(1 + i, false);
            writer.fixed(0x7FEFFFFFFFFFFFFFL - i, false, 1100, 3);
            writer.fixed(1 + i, false, 0, 1);
            writer.scientific(0x000FFFFFFFFFFFFFL - i, false, 800, 3);
            writer.paperAt(writer.paper() - 8);
            writer.digits(0x7FEFFFFFFFFFFFFFL - i, false);
            writer.power(1 + i, false);
            writer.next(i, false, true);
            writer.narrowed(writer.widened(i));
        }
    }

    public static void main(String[] args) {
        calls(new FloatWriter());
        long before = allocated();
        FloatWriter writer = new FloatWriter();
        long made = allocated();
        calls(writer);
        long after = allocated();
        Check.equal("a new object takes at most 16 KB", made - before <= 16384, true);
        Check.equal("504 calls take at most 4 KB, not " + (after - made), after - made <= 4096, true);
        Check.end();
    }
}
