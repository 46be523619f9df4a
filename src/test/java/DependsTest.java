/** Promise 7: by how many cycles one depends on another one, and why. */
final class DependsTest {
    private DependsTest() {
    }

    public static void main(String[] args) {
        byReadingAndWriting();
        byFractions();
        byProductsAndConditions();
        byBarriers();
        byMemory();
        byBytes();
        ofBranches();
        refusesOthers();
        everyPairAsInTheModel();
        Check.end();
    }

    /** The last one on the first one, with those between them. */
    private static void last(String what, int due, int... words) {
        Check.same(what, due, Blocks.lastOnFirst(words));
    }

    private static void byReadingAndWriting() {
        last("reads a load's", 2, Asm.lw(2, 0, 4), Asm.addu(3, 2, 5));
        last("reads a sum", 1, Asm.addu(2, 4, 5), Asm.addu(3, 5, 2));
        last("writes what is read", 1, Asm.addu(2, 4, 5), Asm.addu(5, 6, 7));
        last("writes a load's, 2 - 1 + 1", 2, Asm.lw(2, 0, 4), Asm.addu(2, 5, 6));
        last("a load over a sum, 1 at least", 1, Asm.addu(2, 5, 6), Asm.lw(2, 0, 4));
        last("a MUL over a load, 1 at least", 1, Asm.lw(2, 0, 4), Asm.mul(2, 5, 6));
        last("nothing in common", -1, Asm.addu(2, 4, 5), Asm.addu(3, 4, 5));
        last("register 0 is not written", -1, Asm.lw(0, 0, 4), Asm.addu(3, 0, 0));
        last("register 0 is not read", -1, Asm.addu(3, 0, 0), Asm.lw(0, 0, 4));
        last("MOVZ reads its d", 2, Asm.lw(2, 0, 4), Asm.special(0x0a, 5, 6, 2));
        last("LWL reads its t", 2, Asm.lw(2, 0, 4), Asm.lwl(2, 4, 5));
        last("PREF reads s", 2, Asm.lw(2, 0, 4), Asm.immediate(0x33, 2, 5, 0));
        last("PREF does not read t", -1, Asm.lw(2, 0, 4), Asm.immediate(0x33, 5, 2, 0));
        last("over one between them", 2, Asm.lw(2, 0, 4), Asm.lui(2, 1), Asm.addu(3, 2, 5));
        SlotFiller x = new SlotFiller();
        Check.adds(x, Asm.lw(2, 0, 4), Asm.addu(3, 2, 5));
        Check.same("an earlier one on a later one", -1, x.depends(0, 1));
        Check.same("one on itself", -1, x.depends(1, 1));
    }

    private static void byFractions() {
        int addD = Asm.fraction(0, Asm.D, 2, 4, 6);
        last("a double's second half", 3, addD, Asm.mfc1(8, 3));
        last("the one behind it is another", -1, addD, Asm.mfc1(8, 1));
        last("fraction 0 is read and written", 2, Asm.lwc1(0, 0, 4), Asm.mfc1(8, 0));
        last("LWC1 writes a single one", -1, Asm.lwc1(2, 0, 4), Asm.mfc1(8, 3));
        last("LDC1 writes both", 2, Asm.ldc1(2, 0, 4), Asm.mfc1(8, 3));
        last("MTC1 into what is read", 1, addD, Asm.mtc1(8, 7));
        last("CVT.S.D writes a single one", -1,
                Asm.fraction(0x20, Asm.D, 2, 4, 0), Asm.mfc1(8, 3));
        last("CVT.D.W writes both", 3, Asm.fraction(0x21, Asm.W, 2, 5, 0), Asm.mfc1(8, 3));
        last("CVT.D.W reads a single one", -1,
                Asm.fraction(0x21, Asm.W, 2, 8, 0), Asm.mtc1(8, 9));
        last("a fraction is no general register", -1, Asm.lw(2, 0, 4), Asm.mfc1(8, 2));
        last("SQRT.S is long", 15, Asm.fraction(4, Asm.S, 2, 4, 0), Asm.swc1(2, 0, 4));
        last("ADD.S over SQRT.S: 15 - 3 + 1", 13,
                Asm.fraction(4, Asm.S, 2, 4, 0), Asm.fraction(0, Asm.S, 2, 5, 6));
        last("MOVZ.S reads a register", 2, Asm.lw(9, 0, 4), Asm.fraction(0x12, Asm.S, 2, 4, 9));
        last("MOVZ.S reads its fd", 3,
                Asm.fraction(0, Asm.S, 2, 4, 6), Asm.fraction(0x12, Asm.S, 2, 5, 9));
    }

    private static void byProductsAndConditions() {
        last("MFLO behind MULT", 4, Asm.mult(2, 3), Asm.mflo(4));
        last("MFHI behind DIV", 20, Asm.div(2, 3), Asm.special(0x10, 0, 0, 4));
        last("MULT behind MFLO", 1, Asm.mflo(4), Asm.mult(2, 3));
        last("MULT behind DIV: 20 - 4 + 1", 17, Asm.div(2, 3), Asm.mult(4, 5));
        last("MADD behind DIV reads", 20, Asm.div(2, 3), Asm.madd(4, 5));
        last("MUL writes the products", 4, Asm.mul(2, 3, 4), Asm.mflo(5));
        last("MTLO reads the products", 20, Asm.div(2, 3), Asm.mtlo(5));
        last("MUL does not read them", 17, Asm.div(2, 3), Asm.mul(4, 5, 6));
        int compare = Asm.fraction(0x32, Asm.S, 0, 2, 4);
        last("BC1T behind C", 3, compare, Asm.bc1t(false));
        last("MOVF behind C", 3, compare, Asm.special(0x01, 2, 0, 3));
        last("C behind MOVF", 1, Asm.special(0x01, 2, 0, 3), compare);
        last("C behind C", 3, compare, Asm.fraction(0x31, Asm.S, 4, 6, 8));
        last("products are no conditions", -1, compare, Asm.mflo(2));
    }

    private static void byBarriers() {
        last("behind a barrier", 1, Asm.sync(), Asm.NOP);
        last("a barrier behind one", 1, Asm.NOP, Asm.syscall());
        last("a branch behind a barrier", 1, Asm.sync(), Asm.j());
        last("two barriers", 1, Asm.sync(), Asm.sync());
        last("ADD has no reads of its own", 1, Asm.lw(2, 0, 4), Asm.special(0x20, 2, 2, 3));
        last("LL is a barrier", 1, Asm.immediate(0x30, 4, 2, 0), Asm.addu(5, 6, 7));
    }

    private static void byMemory() {
        last("two loads", -1, Asm.lw(2, 0, 4), Asm.lw(3, 0, 4));
        last("a load behind a store", 1, Asm.sw(2, 0, 4), Asm.lw(3, 0, 4));
        last("a store behind a load", 1, Asm.lw(2, 0, 4), Asm.sw(3, 0, 4));
        last("two stores", 1, Asm.sw(2, 0, 4), Asm.sw(3, 0, 4));
        last("two stores apart", -1, Asm.sw(2, 0, 4), Asm.sw(3, 4, 4));
        last("another register s", 1, Asm.sw(2, 0, 4), Asm.sw(3, 4, 5));
        last("s written between", 1, Asm.sw(2, 0, 4), Asm.addiu(4, 4, 8), Asm.sw(3, 4, 4));
        last("s written before", -1, Asm.sw(2, 0, 4), Asm.addiu(6, 4, 8), Asm.sw(3, 4, 4));
        last("s written by the first one", 2, Asm.lw(4, 0, 4), Asm.sw(3, 4, 4));
        last("s written by the second one", 1, Asm.sw(3, 4, 4), Asm.lw(4, 0, 4));
        last("s is 0", -1, Asm.sw(2, 0, 0), Asm.lui(0, 8), Asm.lw(3, 4, 0));
        last("fraction s is not s", -1, Asm.sw(2, 0, 4), Asm.lwc1(4, 8, 5), Asm.lw(3, 4, 4));
        last("PREF is no load", -1, Asm.sw(2, 0, 4), Asm.immediate(0x33, 4, 0, 0));
        SlotFiller x = new SlotFiller();
        Check.adds(x, Asm.addiu(4, 4, 8), Asm.sw(2, 0, 4), Asm.sw(3, 4, 4));
        Check.same("s written before both", -1, x.depends(2, 1));
    }

    private static void byBytes() {
        last("SB in a word", 1, Asm.sw(2, 0, 4), Asm.sb(3, 3, 4));
        last("SB behind a word", -1, Asm.sw(2, 0, 4), Asm.sb(3, 4, 4));
        last("SB before a word", -1, Asm.sw(2, 0, 4), Asm.sb(3, -1, 4));
        last("SH over the edge", 1, Asm.sw(2, 0, 4), Asm.sh(3, -1, 4));
        last("LB next to SB", -1, Asm.sb(2, 0, 4), Asm.lb(3, 1, 4));
        last("LB before SB", -1, Asm.sb(2, 1, 4), Asm.lb(3, 0, 4));
        last("LBU before SB", -1, Asm.sb(2, 1, 4), Asm.immediate(0x24, 4, 3, 0));
        last("LB on SB", 1, Asm.sb(2, 1, 4), Asm.lb(3, 1, 4));
        last("LH on SB", 1, Asm.sb(2, 1, 4), Asm.lh(3, 0, 4));
        last("LHU next to SH", -1, Asm.sh(2, 2, 4), Asm.immediate(0x25, 4, 3, 0));
        last("a word in a double", 1, Asm.sdc1(2, 0, 4), Asm.lw(3, 4, 4));
        last("a word behind a double", -1, Asm.sdc1(2, 0, 4), Asm.lw(3, 8, 4));
        last("LDC1 over a word", 1, Asm.sw(3, 4, 4), Asm.ldc1(2, 0, 4));
        last("SWC1 is a word", -1, Asm.swc1(2, 0, 4), Asm.lw(3, 4, 4));
        last("SWL takes the whole word", 1, Asm.swl(2, 3, 4), Asm.sb(3, 0, 4));
        last("SWR takes the whole word", 1, Asm.swr(2, 0, 4), Asm.sb(3, 3, 4));
        last("SWL takes no more", -1, Asm.swl(2, 3, 4), Asm.sb(3, 4, 4));
        last("LWR below 0", 1, Asm.sb(2, -4, 4), Asm.lwr(3, -1, 4));
        last("LWR below 0 takes no more", -1, Asm.sb(2, 0, 4), Asm.lwr(3, -1, 4));
        last("LWL takes the whole word", 1, Asm.sb(2, 4, 4), Asm.lwl(3, 7, 4));
        last("a word at an odd place", 1, Asm.sw(2, 1, 4), Asm.sb(3, 4, 4));
        last("offsets do not go round", -1, Asm.sw(2, 32767, 4), Asm.sw(3, -32768, 4));
        last("nor with s 0", -1, Asm.sw(2, -4, 0), Asm.sw(3, 0, 0));
    }

    private static void ofBranches() {
        last("BEQ reads t", 2, Asm.lw(2, 0, 4), Asm.beq(0, 2));
        last("BLEZ reads no t", -1, Asm.lw(2, 0, 4), Asm.immediate(0x06, 0, 2, 4));
        last("J reads nothing", -1, Asm.lw(31, 0, 4), Asm.j());
        last("JAL writes 31", 2, Asm.lw(31, 0, 4), Asm.jal());
        last("JAL over what is read", 1, Asm.addu(2, 31, 0), Asm.jal());
        last("JALR writes d", 1, Asm.addu(2, 9, 0), Asm.jalr(9, 3));
        last("JALR to another d leaves 31", -1, Asm.addu(2, 31, 0), Asm.jalr(9, 3));
        last("BGEZAL reads s", 2, Asm.lw(7, 0, 4), Asm.immediate(1, 7, 0x11, 4));
        last("BLTZAL writes 31", 1, Asm.addu(2, 31, 0), Asm.immediate(1, 7, 0x10, 4));
        last("a store is not memory to a branch", -1, Asm.sw(2, 0, 4), Asm.jr(31));
    }

    private static void refusesOthers() {
        SlotFiller x = new SlotFiller();
        Check.adds(x, Asm.lw(2, 0, 4), Asm.addu(3, 2, 5));
        int[] outside = {-1, 2, 40, Integer.MIN_VALUE, Integer.MAX_VALUE};
        for (int k : outside) {
            Check.refused("depends(" + k + ", 0)", IndexOutOfBoundsException.class,
                    () -> x.depends(k, 0));
            Check.refused("depends(1, " + k + ")", IndexOutOfBoundsException.class,
                    () -> x.depends(1, k));
        }
        x.schedule(true, true);
        Check.same("the block stays behind schedule()", 2, x.depends(1, 0));
        x.add(Asm.NOP);
        Check.refused("a new one is shorter", IndexOutOfBoundsException.class,
                () -> x.depends(1, 0));
    }

    /** Every two instructions, on registers so few that they often meet. */
    private static void everyPairAsInTheModel() {
        int[] fields = {0, 0x00421080, 0x00841100, 0x00442084};
        for (Manual.Entry first : Manual.ENTRIES) {
            if (first.kind == 7) {
                continue;
            }
            for (Manual.Entry second : Manual.ENTRIES) {
                for (int field : fields) {
                    pair(first.bits | 0x00441080 & ~first.mask,
                            second.bits | field & ~second.mask);
                }
            }
        }
    }

    private static void pair(int first, int second) {
        if (Manual.find(first) == null || Manual.find(second) == null) {
            return;
        }
        Model model = new Model();
        model.words.add(first);
        model.words.add(second);
        last(Integer.toHexString(second) + " on " + Integer.toHexString(first),
                model.depends(1, 0), first, second);
    }
}
