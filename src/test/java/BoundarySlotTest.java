/** The SLOT: each boundary case by itself. */
final class BoundarySlotTest {
    private static final int NONE = SlotFiller.NONE;
    private static final int[] LIKELY = {Asm.beql(20, 21), Asm.immediate(0x15, 20, 21, 4),
        Asm.immediate(0x16, 20, 0, 4), Asm.immediate(0x17, 20, 0, 4), Asm.immediate(1, 20, 2, 4),
        Asm.immediate(1, 20, 3, 4), Asm.bc1t(true), Asm.bc1t(true) & ~(1 << 16)};
    private static final int[] NOT_LIKELY = {Asm.beq(20, 21), Asm.immediate(0x05, 20, 21, 4),
        Asm.immediate(0x06, 20, 0, 4), Asm.immediate(0x07, 20, 0, 4), Asm.immediate(1, 20, 0, 4),
        Asm.immediate(1, 20, 1, 4), Asm.bc1t(false), Asm.bc1t(false) & ~(1 << 16), Asm.j(),
        Asm.jal(), Asm.jr(20), Asm.jalr(31, 20), Asm.immediate(1, 20, 0x10, 4),
        Asm.immediate(1, 20, 0x11, 4)};

    private BoundarySlotTest() {
    }

    public static void main(String[] args) {
        Check.sentence("The SLOT, behind a branch that is there", BoundarySlotTest::noBranchNoSlot);
        Check.sentence("if filling is wanted ... Otherwise ... a NOP comes behind it",
                BoundarySlotTest::fillingIsNotWanted);
        Check.sentence("and the branch isn't likely ... Otherwise ... a NOP comes behind it",
                BoundarySlotTest::likelyBranches);
        Check.sentence("and the branch isn't likely", BoundarySlotTest::branchesThatAreNotLikely);
        Check.sentence("or when there is none, a NOP comes behind it",
                BoundarySlotTest::aBranchAlone);
        Check.sentence("on which none depends", BoundarySlotTest::neededByTheBranch);
        Check.sentence("on which none depends", BoundarySlotTest::neededByOthers);
        Check.sentence("and that is no BARRIER", BoundarySlotTest::barriers);
        Check.sentence("the last one in the order (the branch left aside)",
                BoundarySlotTest::theLastOneInTheOrder);
        Check.sentence("leaves its place and comes behind the branch",
                BoundarySlotTest::theFirstOneInTheOrder);
        Check.sentence("and that is no BARRIER, leaves its place", BoundarySlotTest::ofEachClass);
        Check.sentence("NONE for a NOP that came of itself; filled by one of the block",
                BoundarySlotTest::aNopOfTheBlock);
        Check.sentence("a NOP (the word 0, of class PLAIN) comes behind it",
                BoundarySlotTest::aNopOfItself);
        Check.sentence("The SLOT, behind a branch that is there",
                BoundarySlotTest::inABlockOfForty);
        Check.end();
    }

    private static int[] words(int... words) {
        return words;
    }

    private static void counts(String what, SlotFiller x, int nops, int filled) {
        Check.same(what + ": NOPs that came of themselves", nops, x.count(2));
        Check.same(what + ": filled by one of the block", filled, x.count(3));
    }

    private static void noBranchNoSlot() {
        counts("of none", Check.comes("of none", true, true, words()), 0, 0);
        counts("of one", Check.comes("of one", true, true, words(Asm.lui(5, 1)), 0), 0, 0);
        int[] two = words(Asm.lui(5, 1), Asm.lui(6, 1));
        counts("filling", Check.comes("filling", true, true, two, 0, 1), 0, 0);
        counts("not filling", Check.comes("not filling", false, false, two, 0, 1), 0, 0);
        int[] barrier = words(Asm.lui(5, 1), Asm.syscall());
        counts("a barrier last", Check.comes("a barrier last", true, true, barrier, 0, 1), 0, 0);
    }

    private static void fillingIsNotWanted() {
        for (int branch : NOT_LIKELY) {
            for (boolean ordering : new boolean[] {true, false}) {
                SlotFiller x = Check.comes("not wanted", ordering, false,
                        words(Asm.lui(5, 1), branch), 0, 1, NONE);
                counts("not wanted", x, 1, 0);
            }
        }
    }

    private static void likelyBranches() {
        for (int branch : LIKELY) {
            for (boolean ordering : new boolean[] {true, false}) {
                String name = Integer.toHexString(branch);
                SlotFiller x = Check.comes(name, ordering, true,
                        words(Asm.lui(5, 1), Asm.NOP, branch), 0, 1, 2, NONE);
                counts(name, x, 1, 0);
            }
        }
    }

    private static void branchesThatAreNotLikely() {
        for (int branch : NOT_LIKELY) {
            for (boolean ordering : new boolean[] {true, false}) {
                String name = Integer.toHexString(branch);
                SlotFiller x = Check.comes(name, ordering, true,
                        words(Asm.lui(5, 1), Asm.lui(6, 1), branch), 0, 2, 1);
                counts(name, x, 0, 1);
            }
        }
    }

    private static void aBranchAlone() {
        for (int branch : NOT_LIKELY) {
            counts("alone", Check.comes("alone", true, true, words(branch), 0, NONE), 1, 0);
        }
        for (int branch : LIKELY) {
            counts("alone", Check.comes("alone", false, true, words(branch), 0, NONE), 1, 0);
        }
    }

    private static void neededByTheBranch() {
        int[][] pairs = {{Asm.lui(20, 1), Asm.beq(20, 0)}, {Asm.lui(20, 1), Asm.beq(0, 20)},
            {Asm.lui(20, 1), Asm.jr(20)}, {Asm.addu(5, 31, 0), Asm.jal()},
            {Asm.lui(31, 1), Asm.jal()}, {Asm.addu(5, 9, 0), Asm.jalr(9, 20)},
            {Asm.sw(31, 0, 6), Asm.immediate(1, 20, 0x11, 4)},
            {Asm.fraction(0x32, Asm.S, 0, 1, 2), Asm.bc1t(false)}};
        for (int[] pair : pairs) {
            SlotFiller x = Check.comes("the branch needs it", true, true, pair, 0, 1, NONE);
            counts("the branch needs it", x, 1, 0);
        }
    }

    private static void neededByOthers() {
        Check.comes("a chain to the branch", true, true, words(Asm.lui(5, 1), Asm.lw(6, 0, 5),
                Asm.addu(7, 6, 6), Asm.beq(7, 0)), 0, 1, 2, 3, NONE);
        Check.comes("the one that is read stays, the reader goes", true, true,
                words(Asm.lui(5, 1), Asm.sw(5, 0, 6), Asm.j()), 0, 2, 1);
        Check.comes("one that is written over stays", false, true,
                words(Asm.lui(5, 1), Asm.lui(5, 2), Asm.beq(5, 0)), 0, 1, 2, NONE);
        Check.comes("one whose register is written over stays", false, true,
                words(Asm.addu(6, 5, 5), Asm.lui(5, 2), Asm.beq(5, 0)), 0, 1, 2, NONE);
    }

    private static void barriers() {
        for (int barrier : new int[] {Asm.sync(), Asm.syscall(), Asm.special(0x20, 5, 6, 7),
            Asm.immediate(0x38, 5, 6, 4), Asm.immediate(1, 5, 8, 4)}) {
            counts("alone", Check.comes("alone", true, true, words(barrier, Asm.j()), 0, 1, NONE),
                    1, 0);
            Check.comes("two", true, true, words(barrier, barrier, Asm.j()), 0, 1, 2, NONE);
            Check.comes("one before it is needed by it", true, true,
                    words(Asm.lui(8, 1), barrier, Asm.j()), 0, 1, 2, NONE);
            Check.comes("one behind it goes", true, true,
                    words(barrier, Asm.lui(8, 1), Asm.j()), 0, 2, 1);
        }
    }

    private static void theLastOneInTheOrder() {
        int[] words = words(Asm.lui(5, 1), Asm.lw(6, 0, 20), Asm.mult(7, 8), Asm.j());
        Check.comes("of the block's order", false, true, words, 0, 1, 3, 2);
        Check.comes("of the order by heights", true, true, words, 2, 1, 3, 0);
        Check.comes("not the last one, if that is needed", false, true, words(Asm.lui(5, 1),
                Asm.lui(6, 1), Asm.lw(7, 0, 20), Asm.beq(7, 0)), 0, 2, 3, 1);
    }

    private static void theFirstOneInTheOrder() {
        Check.comes("it alone can be spared", false, true, words(Asm.lui(5, 1), Asm.lui(6, 1),
                Asm.lw(7, 0, 6), Asm.beq(7, 0)), 1, 2, 3, 0);
        Check.comes("the only one", true, true, words(Asm.lui(5, 1), Asm.j()), 1, 0);
    }

    private static void ofEachClass() {
        int[] each = {Asm.lui(5, 1), Asm.lw(5, 0, 6), Asm.sw(5, 0, 6), Asm.mult(5, 6),
            Asm.div(5, 6), Asm.fraction(0, Asm.S, 1, 2, 3), Asm.fraction(4, Asm.D, 2, 4, 0)};
        for (int word : each) {
            SlotFiller x = Check.comes(Integer.toHexString(word), true, true,
                    words(word, Asm.j()), 1, 0);
            counts(Integer.toHexString(word), x, 0, 1);
        }
    }

    private static void aNopOfTheBlock() {
        SlotFiller x = Check.comes("a NOP of the block", true, true,
                words(Asm.NOP, Asm.j()), 1, 0);
        counts("a NOP of the block", x, 0, 1);
        SlotFiller y = Check.comes("it stands, and another one comes", true, false,
                words(Asm.NOP, Asm.j()), 0, 1, NONE);
        counts("it stands, and another one comes", y, 1, 0);
        SlotFiller z = Check.comes("without a branch", true, true, words(Asm.NOP, Asm.NOP), 0, 1);
        counts("without a branch", z, 0, 0);
    }

    private static void aNopOfItself() {
        SlotFiller x = Blocks.of(Asm.lui(5, 1), Asm.j());
        x.schedule(true, false);
        Check.same("its word", 0, x.word(2));
        Check.same("from none", NONE, x.from(2));
        Check.same("it is none of the block", 2, x.count(0));
    }

    private static void inABlockOfForty() {
        SlotFiller x = Blocks.ofMany(39, Asm.lui(5, 1));
        x.add(Asm.j());
        Check.same("filled", 40, x.schedule(true, true));
        Check.same("by the last one", 38, x.from(39));
        Check.same("behind the branch", 39, x.from(38));
        Check.same("not filled", 41, x.schedule(true, false));
        Check.same("a NOP as the forty-first word", NONE, x.from(40));
        Check.same("word(40)", 0, x.word(40));
        Check.refused("word(41)", IndexOutOfBoundsException.class, () -> x.word(41));
        SlotFiller y = Blocks.ofMany(40, Asm.lui(5, 1));
        Check.same("forty without a branch", 40, y.schedule(true, true));
    }
}
