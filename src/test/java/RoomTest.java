import com.sun.management.ThreadMXBean;
import java.lang.management.ManagementFactory;

/** Rule 12: an object's rows are made with it, and a call that answers makes no object at all. */
final class RoomTest {
    private static final int ROUNDS = 4;
    private static final int CALLS = ROUNDS * (40 + 3 + 80 + 3);
    // One object in each call would be sixteen times as much.
    private static final long ROOM_OF_MEASURING = CALLS;
    private static int kept = 0;

    private RoomTest() {
    }

    public static void main(String[] args) {
        ThreadMXBean threads = (ThreadMXBean) ManagementFactory.getThreadMXBean();
        long thread = Thread.currentThread().getId();
        allCalls(new SlotFiller());
        SlotFiller filler = new SlotFiller();
        long before = threads.getThreadAllocatedBytes(thread);
        allCalls(filler);
        long made = threads.getThreadAllocatedBytes(thread) - before;
        Check.holds(CALLS + " calls made objects of " + made + " bytes", made < ROOM_OF_MEASURING);
        Check.holds("all came out", kept != 0);
        Check.end();
    }

    /** Full blocks that all depends in, with a branch, then all that can be asked of them. */
    private static void allCalls(SlotFiller filler) {
        for (int round = 0; round < ROUNDS; round++) {
            kept += filler.add(Asm.lw(2, 4 * round, 4));
            for (int i = 1; i < 39; i++) {
                kept += filler.add(i % 3 == 0 ? Asm.sw(2, i, 4) : Asm.mul(2, 2, i % 32));
            }
            kept += filler.add(Asm.beq(2, 0));
            kept += filler.latency(3, 10 * (round + 1));
            kept += filler.schedule(true, true) + filler.schedule(false, false);
            for (int k = 0; k < 20; k++) {
                kept += filler.word(k) + filler.from(k) + filler.depends(39, k) + filler.height(k);
            }
            kept += filler.cycles() + filler.count(1) + filler.count(-1);
        }
    }
}
