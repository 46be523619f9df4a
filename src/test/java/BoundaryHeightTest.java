/** HEIGHT and promise 8: each boundary case by itself. */
final class BoundaryHeightTest {
    private static final int[] FIRST = {1, 2, 1, 4, 20, 3, 15, 1, 1};
    private static final int[] ONE_OF_EACH = {Asm.lui(5, 1), Asm.lw(5, 0, 6), Asm.sw(5, 0, 6),
        Asm.mult(5, 6), Asm.div(5, 6), Asm.fraction(0, Asm.S, 1, 2, 3),
        Asm.fraction(4, Asm.D, 2, 4, 0), Asm.j(), Asm.sync()};

    private BoundaryHeightTest() {
    }

    public static void main(String[] args) {
        Check.sentence("its latency, if there is none",
                BoundaryHeightTest::itsLatencyIfThereIsNone);
        Check.sentence("the greatest, over those that depend on it; its latency, if there is none",
                BoundaryHeightTest::lessThanItsLatency);
        Check.sentence("the greatest ... of their height and the cycles by which they do",
                BoundaryHeightTest::theGreatest);
        Check.sentence("over those that depend on it", BoundaryHeightTest::theBranchIsOneOfThem);
        Check.sentence("the greatest ... of their height and the cycles by which they do",
                BoundaryHeightTest::fortyInARow);
        Check.sentence("by the latencies of now", BoundaryHeightTest::byTheLatenciesOfNow);
        Check.sentence("IndexOutOfBoundsException: there is no such", BoundaryHeightTest::noSuch);
        Check.sentence("IndexOutOfBoundsException: there is no such (no block)",
                BoundaryHeightTest::noneInABlockOfNone);
        Check.sentence("The height of an instruction of the block",
                BoundaryHeightTest::behindScheduleAndAdd);
        Check.end();
    }

    private static void itsLatencyIfThereIsNone() {
        for (int of = 0; of <= 8; of++) {
            Check.same("alone, of class " + of, FIRST[of], Blocks.of(ONE_OF_EACH[of]).height(0));
            SlotFiller x = Blocks.of(Asm.lw(20, 0, 21), Asm.lui(22, 1), ONE_OF_EACH[of]);
            Check.same("as the last one, of class " + of, FIRST[of], x.height(2));
        }
        SlotFiller y = Blocks.of(Asm.div(5, 6), Asm.lui(7, 1), Asm.lw(8, 0, 9), Asm.j());
        Check.same("others behind it, none of which depend", 20, y.height(0));
        Check.same("the same of a load", 2, y.height(2));
    }

    private static void lessThanItsLatency() {
        Check.same("a barrier behind a DIV", 2, Blocks.of(Asm.div(5, 6), Asm.sync()).height(0));
        Check.same("a LUI of what the DIV reads", 2,
                Blocks.of(Asm.div(5, 6), Asm.lui(5, 1)).height(0));
        Check.same("a store behind a load", 2,
                Blocks.of(Asm.lw(5, 0, 6), Asm.sw(7, 0, 6)).height(0));
    }

    private static void theGreatest() {
        SlotFiller x = Blocks.of(Asm.div(5, 6), Asm.mflo(7), Asm.lui(5, 1), Asm.mtc1(5, 1),
                Asm.fraction(4, Asm.S, 2, 1, 0), Asm.fraction(4, Asm.S, 3, 2, 0),
                Asm.swc1(3, 0, 20));
        int[] due = {34, 1, 33, 32, 31, 16, 1};
        for (int i = 0; i < due.length; i++) {
            Check.same("height(" + i + ")", due[i], x.height(i));
        }
        x.latency(4, 34);
        Check.same("20 of the one is 34 now", 35, x.height(0));
        x.latency(4, 33);
        Check.same("both are the same", 34, x.height(0));
        x.latency(4, 1);
        Check.same("the other one alone", 34, x.height(0));
    }

    private static void theBranchIsOneOfThem() {
        Check.same("a load", 3, Blocks.of(Asm.lw(5, 0, 6), Asm.beq(5, 0)).height(0));
        Check.same("read by the load, written by JAL", 2,
                Blocks.of(Asm.lw(5, 0, 31), Asm.jal()).height(0));
        Check.same("a branch that needs it not", 2,
                Blocks.of(Asm.lw(5, 0, 6), Asm.beq(6, 0)).height(0));
        Check.same("the branch's own", 1, Blocks.of(Asm.lw(5, 0, 6), Asm.beq(5, 0)).height(1));
    }

    private static void fortyInARow() {
        SlotFiller x = Blocks.ofMany(40, Asm.lw(5, 0, 5));
        x.latency(1, 40);
        for (int i = 0; i < 40; i++) {
            Check.same("height(" + i + ")", 40 * (40 - i), x.height(i));
        }
    }

    private static void byTheLatenciesOfNow() {
        SlotFiller x = Blocks.of(Asm.lw(5, 0, 6), Asm.addu(7, 5, 5));
        Check.same("at first", 3, x.height(0));
        x.latency(1, 9);
        Check.same("told behind add()", 10, x.height(0));
        x.latency(0, 4);
        Check.same("of the one that depends", 13, x.height(0));
        x.schedule(true, true);
        x.latency(0, 40);
        Check.same("told behind schedule()", 49, x.height(0));
        Check.same("of the last one", 40, x.height(1));
    }

    private static void noSuch() {
        for (int size : new int[] {1, 2, 39, 40}) {
            SlotFiller x = Blocks.ofMany(size, Asm.NOP);
            Check.same("the first one's", 1, x.height(0));
            Check.same("the last one's", 1, x.height(size - 1));
            for (int i : new int[] {-1, size, size + 1, 40, 41, Integer.MIN_VALUE,
                Integer.MAX_VALUE}) {
                Check.refused("height(" + i + ") of " + size, IndexOutOfBoundsException.class,
                        () -> x.height(i));
            }
        }
    }

    private static void noneInABlockOfNone() {
        SlotFiller x = new SlotFiller();
        Check.refused("height(0)", IndexOutOfBoundsException.class, () -> x.height(0));
        x.schedule(false, true);
        Check.refused("also behind schedule()", IndexOutOfBoundsException.class,
                () -> x.height(0));
    }

    private static void behindScheduleAndAdd() {
        SlotFiller x = Blocks.of(Asm.lui(9, 1), Asm.lw(5, 0, 6), Asm.addu(7, 5, 8), Asm.j());
        x.schedule(true, false);
        Check.same("indices are the block's, not those of what came out", 1, x.height(0));
        Check.same("the load's", 3, x.height(1));
        Check.refused("the slot's NOP has none", IndexOutOfBoundsException.class,
                () -> x.height(4));
        x.add(Asm.div(5, 6));
        Check.same("of the new block", 20, x.height(0));
        Check.refused("none of the old one", IndexOutOfBoundsException.class,
                () -> x.height(1));
    }
}
