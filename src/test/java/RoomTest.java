import com.sun.management.ThreadMXBean;
import java.lang.management.ManagementFactory;

/** What calls make is little: 512 of the dearest ones stay within the 7.3 million elements that one run has. */
public final class RoomTest {
    private static final long PART_OF_A_CALL = 7_300_000L * 8 / 512;
    private static final ThreadMXBean THREADS = (ThreadMXBean) ManagementFactory.getThreadMXBean();

    public static void main(String[] args) {
        FrostTubes x = Looks.threeLayers();
        x.site();
        x.site();
        x.site();
        x.pipe(0, 1);
        x.days(-30, 3, 30);
        Looks.type(x, "D" + "s".repeat(119));
        small("a new object", y -> new FrostTubes().about(0), x);
        small("bestFence", y -> y.bestFence(0, -9, 3, 60), x);
        small("goneIn", y -> y.goneIn(0, 1), x);
        small("oldest", y -> y.oldest(y.about(4) - 1), x);
        small("errorPosition", y -> y.errorPosition(), x);
        small("simulate", y -> y.simulate(5, 60), x);
        small("runScript", y -> y.runScript(3, 130309_130309_130309L), x);
        small("days and undo", y -> y.days(-30, 3, 60) + y.undo(), x);
        small("save and restore", y -> y.save(0) + y.restore(0), x);
        small("load", y -> y.load(), x);
        Checks.finish("RoomTest");
    }

    /** The bytes that one call makes; the first calls are not counted, since with them the machine loads classes. */
    private static void small(String what, Checks.Use use, FrostTubes x) {
        long least = Long.MAX_VALUE;
        for (int i = 0; i < 20; i++) {
            long before = THREADS.getCurrentThreadAllocatedBytes();
            use.answer(x);
            least = Math.min(least, THREADS.getCurrentThreadAllocatedBytes() - before);
        }
        Checks.is(what + " makes " + least + " bytes", 1, least <= PART_OF_A_CALL ? 1 : 0);
    }
}
