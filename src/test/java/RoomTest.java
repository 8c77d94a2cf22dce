import com.sun.management.ThreadMXBean;
import java.lang.management.ManagementFactory;

/** A run of 512 calls makes hardly more than its constructor does, and the dearest calls end soon. */
public final class RoomTest {
    private static final ThreadMXBean THREADS = (ThreadMXBean) ManagementFactory.getThreadMXBean();
    private static int wrong = 0;

    private static void check(boolean right, String what) {
        if (!right) {
            wrong++;
            System.out.println(what);
        }
    }

    private static long made() { return THREADS.getThreadAllocatedBytes(Thread.currentThread().getId()); }

    /** A tape of 200 entries: keys put with no bytes, as many as there are. */
    private static void feedEntries(PackedPages x, int firstKey) {
        for (int i = 0; i < 20; i++) {
            int[] n = new int[5];
            for (int k = 0; k < 5; k++) {
                int key = firstKey + i * 10 + k * 2;
                n[k] = 0x10001000 | (key & 255) << 16 | key + 1 & 255;
            }
            x.feed(n[0], n[1], n[2], n[3], n[4]);
        }
    }

    private static void dearest(PackedPages x) {
        feedEntries(x, 0);
        x.group();
        feedEntries(x, 200);
        x.end(112);
        x.group();
        for (int i = 0; i < 400; i++) {
            if (i % 4 == 0) x.compact();
            if (i % 4 == 1) x.would(0);
            if (i % 4 == 2) x.undo();
            if (i % 4 == 3) x.packing(0, 0);
            if (i % 40 == 0) {
                feedEntries(x, 0);
                x.pack(-1);
                x.unpack(0);
            }
        }
    }

    public static void main(String[] args) {
        dearest(new PackedPages());
        long before = made();
        PackedPages x = new PackedPages();
        long behindConstructor = made();
        long start = System.nanoTime();
        dearest(x);
        long seconds = (System.nanoTime() - start) / 1_000_000_000L;
        long byConstructor = behindConstructor - before;
        long byAll = made() - before;
        check(byConstructor < 60_000, "the constructor makes " + byConstructor + " bytes");
        // 16 moments are kept, of some 1340 elements each; the test's own rows come on top
        check(byAll < 160_000, "a run makes " + byAll + " bytes");
        check(seconds < 60, "the dearest calls take " + seconds + " seconds");
        check(x.count(0) == 256, "there are " + x.count(0) + " records");
        System.out.println("a constructor makes " + byConstructor + " bytes, a run " + byAll);
        if (wrong != 0) System.exit(1);
    }
}
