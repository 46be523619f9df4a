/** The CYCLES and promise 9: each boundary case by itself. */
final class BoundaryCyclesTest {
    private static final int[] ONE_OF_EACH = {Asm.lui(5, 1), Asm.lw(5, 0, 6), Asm.sw(5, 0, 6),
        Asm.mult(5, 6), Asm.div(5, 6), Asm.fraction(0, Asm.S, 1, 2, 3),
        Asm.fraction(4, Asm.D, 2, 4, 0), Asm.sync()};

    private BoundaryCyclesTest() {
    }

    public static void main(String[] args) {
        Check.sentence("0 of none", BoundaryCyclesTest::zeroOfNone);
        Check.sentence("the first one in cycle 0 ... 1 more than the last one's cycle",
                BoundaryCyclesTest::oneOfOne);
        Check.sentence("one cycle behind the one before it at least",
                BoundaryCyclesTest::oneCycleBehindAtLeast);
        Check.sentence("each so many behind those ... on which it depends as it does",
                BoundaryCyclesTest::soManyBehindThose);
        Check.sentence("each so many behind those that come before it",
                BoundaryCyclesTest::behindOnesFurtherBefore);
        Check.sentence("as in the block", BoundaryCyclesTest::asInTheBlock);
        Check.sentence("the slot's does not depend on the branch", BoundaryCyclesTest::theSlotsOne);
        Check.sentence("a NOP on none", BoundaryCyclesTest::aNopOnNone);
        Check.sentence("1 more than the last one's cycle", BoundaryCyclesTest::lastOnesCycle);
        Check.sentence("1 more than the last one's cycle", BoundaryCyclesTest::theLongest);
        Check.sentence("by the latencies of then", BoundaryCyclesTest::byTheLatenciesOfThen);
        Check.sentence("The cycles of what came out", BoundaryCyclesTest::staysWithoutSchedule);
        Check.end();
    }

    private static int takes(boolean ordering, boolean filling, int... words) {
        SlotFiller x = Blocks.of(words);
        x.schedule(ordering, filling);
        return x.cycles();
    }

    private static void zeroOfNone() {
        SlotFiller x = new SlotFiller();
        Check.same("new", 0, x.cycles());
        x.schedule(true, true);
        Check.same("schedule(true, true)", 0, x.cycles());
        x.schedule(false, false);
        Check.same("schedule(false, false)", 0, x.cycles());
        x.add(Asm.div(5, 6));
        Check.same("a block that is not through", 0, x.cycles());
    }

    private static void oneOfOne() {
        for (int word : ONE_OF_EACH) {
            SlotFiller x = Blocks.of(word);
            for (int of = 0; of <= 6; of++) {
                x.latency(of, 40);
            }
            x.schedule(true, true);
            Check.same("of one, whatever its latency", 1, x.cycles());
        }
    }

    private static void oneCycleBehindAtLeast() {
        for (int many : new int[] {1, 2, 39, 40}) {
            SlotFiller x = Blocks.ofMany(many, Asm.NOP);
            x.latency(0, 40);
            x.schedule(false, false);
            Check.same(many + " without anything in common", many, x.cycles());
        }
        Check.same("a branch and its NOP", 2, takes(true, true, Asm.j()));
    }

    private static void soManyBehindThose() {
        SlotFiller x = Blocks.of(Asm.lw(5, 0, 6), Asm.addu(7, 5, 5));
        for (int cycles : new int[] {1, 2, 3, 40}) {
            x.latency(1, cycles);
            x.schedule(false, false);
            Check.same("reads what takes " + cycles, cycles + 1, x.cycles());
        }
        Check.same("1 of a barrier is no more than one behind", 2,
                takes(false, false, Asm.div(5, 6), Asm.sync()));
        Check.same("writes over a DIV's", 18, takes(false, false, Asm.div(5, 6), Asm.mult(7, 8)));
    }

    private static void behindOnesFurtherBefore() {
        Check.same("two of four are gone", 5, takes(false, false,
                Asm.mult(5, 6), Asm.lui(7, 1), Asm.lui(8, 1), Asm.mflo(9)));
        Check.same("all four are gone", 6, takes(false, false, Asm.mult(5, 6), Asm.lui(7, 1),
                Asm.lui(8, 1), Asm.lui(10, 1), Asm.lui(11, 1), Asm.mflo(9)));
        Check.same("of two waits the longer one", 21, takes(false, false,
                Asm.div(5, 6), Asm.lw(7, 0, 8), Asm.mtlo(7)));
        Check.same("a wait behind a wait", 5, takes(false, false,
                Asm.lw(5, 0, 6), Asm.lw(7, 0, 5), Asm.addu(8, 7, 7)));
    }

    private static void asInTheBlock() {
        // LUI 5 of what ADDU reads comes behind it in the block, and so it does in the slot.
        Check.same("the slot's writes what another one reads", 5, takes(true, true,
                Asm.lw(6, 0, 20), Asm.addu(7, 6, 5), Asm.lui(5, 1), Asm.beq(7, 0)));
        Check.same("ordered, nothing is lost", 3, takes(true, true,
                Asm.lui(5, 1), Asm.lw(6, 0, 20), Asm.addu(7, 6, 6)));
        Check.same("not ordered, a cycle is", 4, takes(false, true,
                Asm.lui(5, 1), Asm.lw(6, 0, 20), Asm.addu(7, 6, 6)));
    }

    private static void theSlotsOne() {
        Check.same("one behind the branch", 2, takes(true, true, Asm.lui(5, 1), Asm.j()));
        Check.same("behind one that waits", 4, takes(true, true,
                Asm.lw(5, 0, 6), Asm.lui(7, 1), Asm.beq(5, 0)));
        Check.same("it waits itself", 5, takes(true, true,
                Asm.mult(5, 6), Asm.mflo(7), Asm.j()));
        Check.same("for a DIV", 21, takes(true, true, Asm.div(5, 6), Asm.mflo(7), Asm.j()));
    }

    private static void aNopOnNone() {
        Check.same("behind a DIV and a branch", 3, takes(true, false, Asm.div(5, 6), Asm.j()));
        Check.same("behind a branch that waits", 4,
                takes(true, true, Asm.lw(5, 0, 6), Asm.beq(5, 0)));
        Check.same("behind a barrier and a likely one", 3,
                takes(true, true, Asm.sync(), Asm.beql(5, 0)));
    }

    private static void lastOnesCycle() {
        Check.same("a DIV last", 2, takes(false, false, Asm.lui(5, 1), Asm.div(6, 7)));
        Check.same("a DIV in the slot", 2, takes(true, true, Asm.div(6, 7), Asm.j()));
    }

    private static void theLongest() {
        SlotFiller x = Blocks.ofMany(39, Asm.lw(5, 0, 5));
        x.add(Asm.beq(5, 0));
        x.latency(1, 40);
        Check.same("all, and a NOP", 41, x.schedule(true, true));
        Check.same("the branch in 39 times 40, the NOP behind it", 1562, x.cycles());
    }

    private static void byTheLatenciesOfThen() {
        SlotFiller x = Blocks.of(Asm.lw(5, 0, 6), Asm.addu(7, 5, 5));
        x.latency(1, 7);
        x.schedule(true, true);
        x.latency(1, 40);
        Check.same("told behind schedule()", 8, x.cycles());
        x.latency(1, 1);
        Check.same("and told again", 8, x.cycles());
        x.height(0);
        x.depends(1, 0);
        Check.same("height() and depends() have no part in it", 8, x.cycles());
        x.schedule(true, true);
        Check.same("schedule() again takes those of now", 2, x.cycles());
    }

    private static void staysWithoutSchedule() {
        SlotFiller x = Blocks.of(Asm.lw(5, 0, 6), Asm.addu(7, 5, 5));
        x.schedule(true, true);
        Check.adds(x, Asm.div(5, 6), Asm.mflo(7));
        Check.same("a new block is begun", 3, x.cycles());
        Check.refused("refused", IllegalArgumentException.class, () -> x.add(-1));
        Check.same("a call was refused", 3, x.cycles());
        x.schedule(true, true);
        Check.same("the new one is through", 21, x.cycles());
    }
}
