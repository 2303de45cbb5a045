import java.lang.management.ManagementFactory;

/** What 512 of the dearest calls make stays far below the room that a run has. */
final class RoomTest {
    // 7.3 million fields and elements are the room; a tenth of it, if each took 8 bytes.
    private static final long MOST_BYTES = 7_300_000L / 10 * 8;

    public static void main(String[] args) {
        var bean = (com.sun.management.ThreadMXBean) ManagementFactory.getThreadMXBean();
        long before = bean.getCurrentThreadAllocatedBytes();
        EmptyLand x = new EmptyLand();
        x.made(8);
        for (int i = 0; i < 10; i++) {
            x.thing(10 * (i % 7) + i % 8, 10, 100, 50);
        }
        for (int i = 0; i < 100; i++) {
            x.feed(0x31, 1);
            x.text(i % 2);
            x.keep(9999, 5, 0);
            x.road(5);
            x.when(i % 10, 5);
        }
        x.edge(0, 40);
        x.image();
        x.restore();
        long bytes = bean.getCurrentThreadAllocatedBytes() - before;
        System.out.println(bytes + " bytes made by about 512 calls");
        if (bytes > MOST_BYTES) {
            System.out.println("more than " + MOST_BYTES);
            System.exit(1);
        }
    }
}
