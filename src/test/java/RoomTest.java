import java.lang.management.ManagementFactory;

/** All that the dearest run of 512 calls makes must fit well into the one room of a run. */
public final class RoomTest {
    // The room has 7.3 million fields and elements; at eight bytes each a run keeps to a tenth of it.
    private static final long MOST_BYTES = 7_300_000L * 8 / 10;

    private static int calls;

    public static void main(String[] args) {
        run();
        long before = bytesMade();
        calls = 0;
        run();
        long bytes = bytesMade() - before;
        System.out.println("room: " + calls + " calls made " + bytes + " bytes");
        if (calls > 512 || bytes > MOST_BYTES) {
            System.exit(1);
        }
    }

    private static long bytesMade() {
        return ((com.sun.management.ThreadMXBean) ManagementFactory.getThreadMXBean())
                .getCurrentThreadAllocatedBytes();
    }

    /** All lots and batches, all pieces, CHOICE of 40, MOST of 14, a QUEUE of ten, again and again. */
    private static void run() {
        SugarKitchen x = new SugarKitchen();
        calls = 0;
        for (int i = 0; i < 40; i++) {
            called(x.lot(1000000, 255));
            called(x.batch(i % 2 == 0 ? 3 : 5));
        }
        called(x.put(0, 0, 1000000));
        called(x.cook(0, 60));
        called(x.vouch(0) ? 1 : 0);
        for (int i = 0; i < 7; i++) {
            called(x.cut(0, 190 + i, 99));
        }
        for (int i = 0; i < 60; i++) {
            called(x.place(i * 9, i / 24, i % 24) ? 1 : 0);
        }
        for (int i = 0; i < 10; i++) {
            called(x.queue(i));
        }
        for (int i = 0; calls < 505; i++) {
            called(x.would(15, 8000 - i, 500, i % 5));
            called(x.would(15, 195 * (1 + i % 7), i % 50, 3));
            called(x.wash(i % 6, i / 6 % 6, i) ? 1 : 0);
            called(x.order(i % 2 == 0, i % 10));
            called(x.row(1 + i % 39, i % 2, 60) ? 1 : 0);
            called(x.pack(15, 380, 5));
        }
    }

    private static void called(int answer) {
        calls++;
    }
}
