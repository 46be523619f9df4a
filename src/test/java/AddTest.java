/** Promise 3: which words are instructions, of which class, and when there is no place. */
final class AddTest {
    private static final int[] FILLINGS = {0, 0x02529480, 0x03ffffff, 0x0210c6c0, 0x03def7bf};

    private AddTest() {
    }

    public static void main(String[] args) {
        knowsWhatTheManualKnows();
        knowsByName();
        knowsOddDoubles();
        doesNotLookAtOtherFields();
        takesFortyAtMost();
        takesNothingBehindABranch();
        beginsANewBlockBehindSchedule();
        changesNothingWhenItThrows();
        Check.end();
    }

    private static int kind(int word) {
        return Blocks.kind(word);
    }

    private static void check(int word) {
        Manual.Entry entry = Manual.find(word);
        Check.same("class of " + Integer.toHexString(word),
                entry == null ? SlotFiller.NONE : entry.kind, kind(word));
    }

    private static void knowsWhatTheManualKnows() {
        for (int filling : FILLINGS) {
            for (int operation = 0; operation < 64; operation++) {
                check(operation << 26 | filling);
            }
            for (int code = 0; code < 64; code++) {
                check(filling & ~63 | code);
                check(0x1c << 26 | filling & ~63 | code);
                check(1 << 26 | filling & ~(31 << 16) | (code & 31) << 16);
                for (int format = 0; format < 32; format++) {
                    check(0x11 << 26 | format << 21 | filling & 0x001fffc0 | code);
                }
            }
        }
    }

    private static void knowsByName() {
        Check.same("NOP", 0, kind(Asm.NOP));
        Check.same("ADDU", 0, kind(Asm.addu(1, 2, 3)));
        Check.same("LUI", 0, kind(Asm.lui(1, 2)));
        Check.same("PREF", 0, kind(Asm.immediate(0x33, 1, 2, 4)));
        Check.same("MFC1", 0, kind(Asm.mfc1(1, 3)));
        Check.same("LW", 1, kind(Asm.lw(1, 0, 2)));
        Check.same("LWC1 of an odd one", 1, kind(Asm.lwc1(1, 0, 2)));
        Check.same("SDC1", 2, kind(Asm.sdc1(30, 0, 2)));
        Check.same("MUL", 3, kind(Asm.mul(1, 2, 3)));
        Check.same("MADD", 3, kind(Asm.madd(2, 3)));
        Check.same("DIV", 4, kind(Asm.div(2, 3)));
        Check.same("C.cond.S", 5, kind(Asm.fraction(0x3f, Asm.S, 0, 1, 3)));
        Check.same("SQRT.D", 6, kind(Asm.fraction(4, Asm.D, 2, 4, 0)));
        Check.same("JALR", 7, kind(Asm.jalr(31, 2)));
        Check.same("BGEZAL", 7, kind(Asm.immediate(1, 2, 0x11, 4)));
        Check.same("BLTZALL is none of them", SlotFiller.NONE, kind(Asm.immediate(1, 2, 0x12, 4)));
        Check.same("BGEZALL is none of them", SlotFiller.NONE, kind(Asm.immediate(1, 2, 0x13, 4)));
        Check.same("ADD", 8, kind(Asm.special(0x20, 1, 2, 3)));
        Check.same("SC", 8, kind(Asm.immediate(0x38, 1, 2, 3)));
        Check.same("TNEI", 8, kind(Asm.immediate(1, 2, 0x0e, 4)));
        Check.same("CFC1 is none of them", SlotFiller.NONE, kind(0x11 << 26 | 2 << 21));
        Check.same("CTC1 is none of them", SlotFiller.NONE, kind(0x11 << 26 | 6 << 21));
        Check.same("CACHE is none of them", SlotFiller.NONE, kind(Asm.immediate(0x2f, 1, 2, 3)));
        Check.same("COP0 is none of them", SlotFiller.NONE, kind(0x10 << 26));
        Check.same("SDBBP is none of them", SlotFiller.NONE, kind(Asm.special2(0x3f, 0, 0, 0)));
        Check.same("CVT.S.S is none", SlotFiller.NONE, kind(Asm.fraction(0x20, Asm.S, 0, 0, 0)));
        Check.same("CVT.D.D is none", SlotFiller.NONE, kind(Asm.fraction(0x21, Asm.D, 0, 0, 0)));
        Check.same("CVT.W.W is none", SlotFiller.NONE, kind(Asm.fraction(0x24, Asm.W, 0, 0, 0)));
        Check.same("ADD.W is none", SlotFiller.NONE, kind(Asm.fraction(0, Asm.W, 0, 0, 0)));
        Check.same("ROUND.L is none", SlotFiller.NONE, kind(Asm.fraction(8, Asm.D, 0, 0, 0)));
        Check.same("CVT.L is none", SlotFiller.NONE, kind(Asm.fraction(0x25, Asm.D, 0, 0, 0)));
    }

    private static void knowsOddDoubles() {
        Check.same("ADD.D 1, 2, 4", SlotFiller.NONE, kind(Asm.fraction(0, Asm.D, 1, 2, 4)));
        Check.same("ADD.D 0, 3, 4", SlotFiller.NONE, kind(Asm.fraction(0, Asm.D, 0, 3, 4)));
        Check.same("ADD.D 0, 2, 5", SlotFiller.NONE, kind(Asm.fraction(0, Asm.D, 0, 2, 5)));
        Check.same("ADD.D 0, 2, 4", 5, kind(Asm.fraction(0, Asm.D, 0, 2, 4)));
        Check.same("ADD.S 1, 3, 5", 5, kind(Asm.fraction(0, Asm.S, 1, 3, 5)));
        Check.same("ABS.D 0, 2, ft not looked at", 5, kind(Asm.fraction(5, Asm.D, 0, 2, 5)));
        Check.same("C.D, fd not looked at", 5, kind(Asm.fraction(0x32, Asm.D, 4 | 1, 2, 4)));
        Check.same("CVT.S.D 1, 2", 5, kind(Asm.fraction(0x20, Asm.D, 1, 2, 0)));
        Check.same("CVT.S.D 2, 1", SlotFiller.NONE, kind(Asm.fraction(0x20, Asm.D, 2, 1, 0)));
        Check.same("CVT.D.S 2, 1", 5, kind(Asm.fraction(0x21, Asm.S, 2, 1, 0)));
        Check.same("CVT.D.S 1, 2", SlotFiller.NONE, kind(Asm.fraction(0x21, Asm.S, 1, 2, 0)));
        Check.same("CVT.D.W 2, 1", 5, kind(Asm.fraction(0x21, Asm.W, 2, 1, 0)));
        Check.same("CVT.D.W 1, 2", SlotFiller.NONE, kind(Asm.fraction(0x21, Asm.W, 1, 2, 0)));
        Check.same("CVT.W.D 1, 2", 5, kind(Asm.fraction(0x24, Asm.D, 1, 2, 0)));
        Check.same("TRUNC.W.D 1, 2", 5, kind(Asm.fraction(0x0d, Asm.D, 1, 2, 0)));
        Check.same("TRUNC.W.D 2, 1", SlotFiller.NONE, kind(Asm.fraction(0x0d, Asm.D, 2, 1, 0)));
        Check.same("MOVZ.D 2, 4, register 3", 5, kind(Asm.fraction(0x12, Asm.D, 2, 4, 3)));
        Check.same("MOVT.D 2, 4", 5, kind(Asm.fraction(0x11, Asm.D, 2, 4, 1)));
        Check.same("MOVT.D 3, 4", SlotFiller.NONE, kind(Asm.fraction(0x11, Asm.D, 3, 4, 1)));
        Check.same("LDC1 of an odd one", SlotFiller.NONE, kind(Asm.ldc1(31, 0, 2)));
        Check.same("SDC1 of an odd one", SlotFiller.NONE, kind(Asm.sdc1(1, 0, 2)));
    }

    private static void doesNotLookAtOtherFields() {
        Check.same("SRL with an s", 0, kind(Asm.special(0x02, 1, 2, 3)));
        Check.same("ADDU with a shift", 0, kind(Asm.addu(1, 2, 3) | 31 << 6));
        Check.same("LUI with an s", 0, kind(Asm.immediate(0x0f, 9, 1, 2)));
        Check.same("BLEZ with a t", 7, kind(Asm.immediate(0x06, 9, 1, 2)));
        Check.same("MFHI with all else", 0, kind(Asm.special(0x10, 31, 31, 1) | 31 << 6));
        SlotFiller x = new SlotFiller();
        Check.adds(x, Asm.lw(9, 0, 4), Asm.immediate(0x0f, 9, 1, 2));
        Check.same("LUI reads none", SlotFiller.NONE, x.depends(1, 0));
    }

    private static void takesFortyAtMost() {
        SlotFiller x = new SlotFiller();
        for (int i = 0; i < 40; i++) {
            Check.same("add " + i, 0, x.add(Asm.addiu(2, 2, i)));
        }
        Check.refused("add 40", IllegalStateException.class, () -> x.add(Asm.NOP));
        Check.refused("a branch as 40", IllegalStateException.class, () -> x.add(Asm.j()));
        Check.refused("no instruction, and full", IllegalArgumentException.class, () -> x.add(-1));
        Check.same("still forty", 40, x.count(0));
        Check.same("all come out", 40, x.schedule(true, true));
        Check.same("behind schedule() there is place", 0, x.add(Asm.NOP));
    }

    private static void takesNothingBehindABranch() {
        SlotFiller x = new SlotFiller();
        x.add(Asm.NOP);
        x.add(Asm.beq(1, 2));
        Check.refused("behind a branch", IllegalStateException.class, () -> x.add(Asm.NOP));
        Check.refused("a branch behind one", IllegalStateException.class, () -> x.add(Asm.j()));
        Check.refused("none behind one", IllegalArgumentException.class, () -> x.add(-1));
        Check.same("still two", 2, x.count(0));
        SlotFiller y = new SlotFiller();
        for (int i = 0; i < 39; i++) {
            y.add(Asm.NOP);
        }
        Check.same("a branch as the fortieth", 7, y.add(Asm.j()));
        Check.same("forty come out, the slot filled", 40, y.schedule(true, true));
        Check.same("forty-one, with a NOP", 41, y.schedule(true, false));
    }

    private static void beginsANewBlockBehindSchedule() {
        SlotFiller x = new SlotFiller();
        Check.adds(x, Asm.lw(2, 0, 4), Asm.jr(2));
        x.schedule(false, false);
        Check.same("the block stays behind schedule()", 2, x.count(0));
        Check.same("a new block", 0, x.add(Asm.addu(5, 6, 7)));
        Check.same("it has one", 1, x.count(0));
        Check.same("what came out stays", 3, x.count(1));
        Check.same("its word too", Asm.lw(2, 0, 4), x.word(0));
        Check.refused("the old block is gone", IndexOutOfBoundsException.class, () -> x.height(1));
        x.add(Asm.addu(5, 5, 7));
        Check.same("the second one goes behind it", 2, x.count(0));
        x.schedule(true, true);
        Check.same("and comes out", Asm.addu(5, 5, 7), x.word(1));
    }

    private static void changesNothingWhenItThrows() {
        SlotFiller x = new SlotFiller();
        Check.adds(x, Asm.lw(2, 0, 4), Asm.addu(3, 2, 2));
        x.schedule(true, true);
        Check.refused("none, behind schedule()", IllegalArgumentException.class, () -> x.add(-1));
        Check.same("the block is still there", 2, x.count(0));
        Check.same("and comes out again", 2, x.schedule(true, true));
    }
}
