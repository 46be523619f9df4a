/** Promises 4, 5 and 6: what comes out, its words, and where they come from. */
final class ScheduleTest {
    private ScheduleTest() {
    }

    public static void main(String[] args) {
        empty();
        byHeights();
        waits();
        keepsTheBlocksOrder();
        fillsTheSlot();
        leavesTheSlot();
        sameBlockAgain();
        refusesOthers();
        Check.end();
    }

    private static void empty() {
        SlotFiller x = new SlotFiller();
        Check.same("of no block", 0, x.schedule(true, true));
        Check.same("again", 0, x.schedule(false, false));
        x.add(Asm.NOP);
        Check.same("of one", 1, x.schedule(true, true));
        Check.same("of the same one", 1, x.schedule(true, true));
        Check.same("a NOP of the block is of the block", 0, x.from(0));
    }

    private static void byHeights() {
        Check.comes("the highest first", true, true,
                new int[] {Asm.lui(2, 1), Asm.lw(3, 0, 4), Asm.addu(5, 3, 3)}, 1, 0, 2);
        Check.comes("of several the first one", true, true,
                new int[] {Asm.lui(2, 1), Asm.lui(3, 1), Asm.lui(5, 1)}, 0, 1, 2);
        Check.comes("what the branch needs is high", true, false,
                new int[] {Asm.lui(2, 1), Asm.lui(3, 1), Asm.beq(3, 0)}, 1, 0, 2, -1);
        Check.comes("not before what it depends on", true, true,
                new int[] {Asm.sw(2, 0, 4), Asm.lui(2, 1), Asm.div(2, 3), Asm.mflo(5)},
                0, 1, 2, 3);
    }

    private static void waits() {
        Check.comes("one that waits lets a lower one come", true, true,
                new int[] {Asm.lw(3, 0, 4), Asm.addu(5, 3, 3), Asm.addu(6, 5, 5), Asm.lui(2, 1)},
                0, 3, 1, 2);
        Check.comes("a cycle without one", true, true,
                new int[] {Asm.div(2, 3), Asm.mflo(5), Asm.lui(6, 1)}, 0, 2, 1);
        // The lower one is ready in cycle 1, the higher one only in cycle 2.
        Check.comes("ready comes before high", true, true,
                new int[] {Asm.lw(3, 0, 4), Asm.mult(3, 3), Asm.mflo(5), Asm.sb(6, 9, 4)},
                0, 3, 1, 2);
    }

    private static void keepsTheBlocksOrder() {
        Check.comes("not ordered", false, false,
                new int[] {Asm.lui(2, 1), Asm.lw(3, 0, 4), Asm.addu(5, 3, 3)}, 0, 1, 2);
        Check.comes("not ordered, a branch", false, false,
                new int[] {Asm.lui(2, 1), Asm.lw(3, 0, 4), Asm.j()}, 0, 1, 2, -1);
    }

    private static void fillsTheSlot() {
        Check.comes("by the last one", false, true,
                new int[] {Asm.lui(2, 1), Asm.lw(3, 0, 4), Asm.j()}, 0, 2, 1);
        Check.comes("by the last one that none needs", false, true,
                new int[] {Asm.lui(2, 1), Asm.lui(6, 1), Asm.lw(3, 0, 4), Asm.beq(3, 0)},
                0, 2, 3, 1);
        Check.comes("by the last one of the order", true, true,
                new int[] {Asm.lui(2, 1), Asm.lw(3, 0, 4), Asm.j()}, 1, 2, 0);
        Check.comes("by a NOP of the block", false, true, new int[] {Asm.NOP, Asm.j()}, 1, 0);
        Check.comes("not by a barrier, nor by what stands before it", false, true,
                new int[] {Asm.lui(2, 1), Asm.sync(), Asm.j()}, 0, 1, 2, -1);
        Check.comes("JAL takes what leaves 31 alone", false, true,
                new int[] {Asm.lui(2, 1), Asm.addu(3, 31, 0), Asm.jal()}, 1, 2, 0);
        Check.comes("JR's too", true, true, new int[] {Asm.sw(2, 0, 4), Asm.jr(31)}, 1, 0);
        Check.comes("BC1T's too", true, true, new int[] {Asm.lui(2, 1), Asm.bc1t(false)}, 1, 0);
        SlotFiller x = Blocks.of(Asm.NOP, Asm.j());
        x.schedule(true, true);
        Check.same("filled", 1, x.count(3));
        Check.same("no NOP of itself", 0, x.count(2));
    }

    private static void leavesTheSlot() {
        Check.comes("a branch alone", true, true, new int[] {Asm.j()}, 0, -1);
        Check.comes("filling is not wanted", true, false, new int[] {Asm.NOP, Asm.j()}, 0, 1, -1);
        Check.comes("likely", true, true, new int[] {Asm.NOP, Asm.beql(1, 2)}, 0, 1, -1);
        int[] likely = {Asm.immediate(0x14, 1, 2, 4), Asm.immediate(0x15, 1, 2, 4),
                Asm.immediate(0x16, 1, 0, 4), Asm.immediate(0x17, 1, 0, 4),
                Asm.immediate(1, 1, 2, 4), Asm.immediate(1, 1, 3, 4), Asm.bc1t(true),
                Asm.bc1t(true) & ~(1 << 16)};
        for (int branch : likely) {
            Check.comes("likely " + Integer.toHexString(branch), false, true,
                    new int[] {Asm.NOP, branch}, 0, 1, -1);
        }
        Check.comes("the branch needs it", true, true,
                new int[] {Asm.lw(2, 0, 4), Asm.beq(2, 0)}, 0, 1, -1);
        Check.comes("only barriers", true, true, new int[] {Asm.sync(), Asm.j()}, 0, 1, -1);
        Check.comes("no branch, no slot", true, true, new int[] {Asm.NOP, Asm.lui(2, 1)}, 0, 1);
    }

    private static void sameBlockAgain() {
        SlotFiller x = Blocks.of(Asm.lui(2, 1), Asm.lw(3, 0, 4), Asm.addu(5, 3, 3), Asm.j());
        x.schedule(true, true);
        Check.cameFrom("ordered, filled", x, 1, 0, 3, 2);
        x.schedule(false, true);
        Check.cameFrom("filled", x, 0, 1, 3, 2);
        x.schedule(true, false);
        Check.cameFrom("ordered", x, 1, 0, 2, 3, -1);
        x.schedule(false, false);
        Check.cameFrom("neither", x, 0, 1, 2, 3, -1);
        x.schedule(true, true);
        Check.cameFrom("as at first", x, 1, 0, 3, 2);
    }

    private static void refusesOthers() {
        SlotFiller x = Blocks.of(Asm.lui(2, 1), Asm.j());
        x.schedule(true, false);
        int[] outside = {-1, 3, 40, 41, Integer.MIN_VALUE, Integer.MAX_VALUE};
        for (int k : outside) {
            Check.refused("word(" + k + ")", IndexOutOfBoundsException.class, () -> x.word(k));
            Check.refused("from(" + k + ")", IndexOutOfBoundsException.class, () -> x.from(k));
        }
        x.schedule(true, true);
        Check.refused("word(2) of two", IndexOutOfBoundsException.class, () -> x.word(2));
        Check.refused("from(2) of two", IndexOutOfBoundsException.class, () -> x.from(2));
        x.add(Asm.NOP);
        Check.same("word(1) stays", Asm.lui(2, 1), x.word(1));
        Check.same("from(1) stays", 0, x.from(1));
    }
}
