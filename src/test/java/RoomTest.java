import com.sun.management.ThreadMXBean;
import java.lang.management.ManagementFactory;

/** The room that a run has: an object makes its rows once, and no call makes more. */
public final class RoomTest {
    private static final long MOST_BYTES_OF_OBJECT = 64 * 1024;
    /** A run of 512 calls that made even one row of twelve places a call would make more. */
    private static final long MOST_BYTES_OF_RUN = 16 * 1024;

    private static final long FIRST = Foundry.bytes(" (0 1 2)");
    private static final long SECOND = Foundry.bytes(" (5 6 7)");
    private static final long THIRD = Foundry.bytes(" (0 2 5)");
    private static final long FOURTH = Foundry.bytes(" (2 3 4)");
    private static final ThreadMXBean THREADS = (ThreadMXBean) ManagementFactory.getThreadMXBean();

    public static void main(String[] args) {
        dearRun(new StickerFoundry());
        long start = bytes();
        StickerFoundry x = new StickerFoundry();
        long made = bytes();
        dearRun(x);
        long end = bytes();
        Check.yes("an object makes " + (made - start) + " bytes", made - start < MOST_BYTES_OF_OBJECT);
        Check.yes("a run makes " + (end - made) + " bytes", end - made < MOST_BYTES_OF_RUN);
        Check.finish();
    }

    private static long bytes() {
        return THREADS.getCurrentThreadAllocatedBytes();
    }

    private static void dearRun(StickerFoundry x) {
        for (int i = 0; i < 18; i++) {
            x.stickers(12);
            turn(x, FIRST);
            turn(x, SECOND);
            turn(x, THIRD);
            x.order();
            x.stickers(8);
            turn(x, FIRST);
            turn(x, FOURTH);
            x.move(0);
            x.move(3);
            x.diameter();
            x.atDistance(3);
            x.solve();
            x.within(4);
            x.rank();
            x.unrank(5);
            x.block(2, 1);
            x.write(StickerFoundry.NONE);
        }
    }

    private static void turn(StickerFoundry x, long w) {
        x.cut(0);
        x.type(w, 8);
        x.turn();
    }
}
