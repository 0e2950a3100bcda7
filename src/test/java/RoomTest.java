import com.sun.management.ThreadMXBean;
import java.lang.management.ManagementFactory;

/**
 * All objects of a run live in one room, so what is made is counted: an object's own rows when it
 * is made, and nothing by any call that is not refused.
 */
public final class RoomTest {
    /** Some 10,000 fields and elements of four bytes each, and the heads of some 120 rows. */
    private static final long MOST_BYTES_OF_AN_OBJECT = 50_000;
    private static final int RUNS = 50;

    private static final ThreadMXBean THREADS =
            (ThreadMXBean) ManagementFactory.getThreadMXBean();

    private RoomTest() {
    }

    public static void main(String[] args) {
        warmUp();
        TapeSealer[] made = new TapeSealer[RUNS];
        long start = allocated();
        for (int i = 0; i < RUNS; i++) {
            made[i] = new TapeSealer();
        }
        long ofAnObject = (allocated() - start) / RUNS;
        start = allocated();
        for (int i = 0; i < RUNS; i++) {
            use(made[i]);
        }
        // Looking at the count makes a little, too, but far less than an object a run.
        long ofARun = (allocated() - start) / RUNS;
        boolean isSmall = ofAnObject <= MOST_BYTES_OF_AN_OBJECT && ofARun < 16;
        System.out.println("an object takes " + ofAnObject + " bytes, its calls " + ofARun);
        System.exit(isSmall ? 0 : 1);
    }

    /** What is loaded when a call is made for the first time is not the call's. */
    private static void warmUp() {
        use(new TapeSealer());
        allocated();
    }

    private static long allocated() {
        return THREADS.getThreadAllocatedBytes(Thread.currentThread().getId());
    }

    private static void use(TapeSealer x) {
        fill(x, 32);
        x.epoch();
        x.create(5);
        for (int part = 0; part < 4; part++) {
            fill(x, 192);
            x.append();
        }
        x.finish();
        for (int g = 0; g < 4; g++) {
            x.spoil(8 + 6 * g);
            x.damage(10 + 6 * g, 5, 255);
        }
        x.read(0, 0, 768);
        x.output(767);
        x.verify(0);
        for (int g = 0; g < 6; g++) {
            x.scrub(g);
        }
        fill(x, 32);
        x.epoch();
        x.rewrap(0);
        x.dropEpoch(1);
        x.create(6);
        x.stopAfter(100);
        x.mount();
        for (int what = 0; what < 4; what++) {
            x.file(0, what);
            x.state(what);
        }
        x.block(8, 0);
        x.delete(0);
    }

    private static void fill(TapeSealer x, int bytes) {
        for (int k = 0; k < bytes; k += 4) {
            x.put(0x01020304 * k, 4);
        }
    }
}
