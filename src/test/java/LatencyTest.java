/** Promise 2: what a latency was, and which there are. */
final class LatencyTest {
    private static final int[] FIRST = {1, 2, 1, 4, 20, 3, 15};

    private LatencyTest() {
    }

    public static void main(String[] args) {
        answersWhatItWas();
        refusesOthers();
        isUsedByTheBlockOfNow();
        Check.end();
    }

    private static void answersWhatItWas() {
        SlotFiller x = new SlotFiller();
        for (int of = 0; of < FIRST.length; of++) {
            Check.same("latency of " + of + " at first", FIRST[of], x.latency(of, 30 + of));
        }
        for (int of = 0; of < FIRST.length; of++) {
            Check.same("latency of " + of + " then", 30 + of, x.latency(of, 1));
            Check.same("latency of " + of + " as 1", 1, x.latency(of, 40));
            Check.same("latency of " + of + " as 40", 40, x.latency(of, FIRST[of]));
        }
    }

    private static void refusesOthers() {
        SlotFiller x = new SlotFiller();
        int[] classes = {-1, 7, 8, 9, Integer.MIN_VALUE, Integer.MAX_VALUE};
        for (int of : classes) {
            Check.refused("latency(" + of + ", 1)", IllegalArgumentException.class,
                    () -> x.latency(of, 1));
        }
        int[] cycles = {0, -1, 41, Integer.MIN_VALUE, Integer.MAX_VALUE};
        for (int many : cycles) {
            for (int of = 0; of < FIRST.length; of++) {
                int which = of;
                Check.refused("latency(" + of + ", " + many + ")", IllegalArgumentException.class,
                        () -> x.latency(which, many));
                Check.same("unchanged latency of " + of, FIRST[of], x.latency(of, FIRST[of]));
            }
        }
    }

    private static void isUsedByTheBlockOfNow() {
        SlotFiller x = new SlotFiller();
        Check.adds(x, Asm.lw(2, 0, 4), Asm.addu(3, 2, 2));
        Check.same("a load's two cycles", 2, x.depends(1, 0));
        x.latency(1, 7);
        Check.same("seven now", 7, x.depends(1, 0));
        Check.same("height by seven", 8, x.height(0));
        x.schedule(true, true);
        x.latency(1, 3);
        Check.same("after schedule() too", 3, x.depends(1, 0));
        Check.same("what came out keeps its cycles", 8, x.cycles());
        x.add(Asm.lw(2, 0, 4));
        Check.same("a new block keeps latencies", 3, x.height(0));
    }
}
