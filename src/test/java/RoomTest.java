import com.sun.management.ThreadMXBean;
import java.lang.management.ManagementFactory;

/** All objects of a run share one room: the calls of an object make none beside what its constructor made. */
public final class RoomTest {
    private static final int CALLS_A_ROUND = 34, ROUNDS = 12, OBJECTS = 40;
    private static final long SMALL_OBJECT = 4096;

    public static void main(String[] args) {
        ThreadMXBean thread = (ThreadMXBean) ManagementFactory.getThreadMXBean();
        LeafInk[] inks = new LeafInk[OBJECTS];
        long start = thread.getCurrentThreadAllocatedBytes();
        for (int place = 0; place < OBJECTS; place++) {
            inks[place] = new LeafInk();
        }
        long made = thread.getCurrentThreadAllocatedBytes() - start;
        Due.that("an object is small: " + made / OBJECTS + " bytes", made < OBJECTS * SMALL_OBJECT);
        for (LeafInk ink : inks) {
            tell(ink);
        }
        long sum = callAll(inks[0]);
        start = thread.getCurrentThreadAllocatedBytes();
        for (LeafInk ink : inks) {
            for (int round = 0; round < ROUNDS; round++) {
                sum += callAll(ink);
            }
        }
        made = thread.getCurrentThreadAllocatedBytes() - start;
        long calls = (long) OBJECTS * ROUNDS * CALLS_A_ROUND;
        // An object has 16 bytes at least, so this is less than one in sixteen calls.
        Due.that(calls + " calls make nothing: " + made + " bytes, " + sum, made < calls);
        Due.end();
    }

    private static void tell(LeafInk ink) {
        String greys = "0123456789012345678901234";
        Due.writeAll(ink, "L55" + greys + "B" + greys);
        ink.leaf();
    }

    private static long callAll(LeafInk ink) {
        long sum = ink.write(65) + ink.fault() + ink.about(2) + ink.about(3) + ink.about(4) + ink.grey(1, 3);
        sum += ink.shows(3) + ink.window(12, 1) + ink.spread(12, 1, true) + ink.mark(7) + ink.under(3);
        sum += ink.cleaned(2) + ink.paint(0, 3, 4) + ink.light(0) + ink.rule(1, 2, 3) + ink.table(3, 2);
        sum += ink.lay(1, 0) + ink.fit(0, 1, true) + ink.best(0) + ink.best(1) + ink.best(2);
        sum += ink.judge(3, 100050010060041L) + ink.share(2, true) + ink.see(3, 1) + ink.ways(0) + ink.ways(1);
        sum += ink.unsee() + ink.bleached(2, 5, 3, false) + ink.seed(9) + ink.drawn(20) + ink.keep(1);
        return sum + ink.again(1) + ink.undo() + ink.wipe();
    }
}
