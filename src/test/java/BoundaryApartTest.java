/** DEPENDS, of STOREs and LOADs, and APART: each boundary case by itself. */
final class BoundaryApartTest {
    private static final int NONE = SlotFiller.NONE;
    private static final int BASE = 4;
    private static final int LOWEST = -32768;
    private static final int HIGHEST = 32767;
    /** Operation and bytes of those whose bytes begin at the offset. */
    private static final int[][] SIZES = {{0x20, 1}, {0x24, 1}, {0x28, 1}, {0x21, 2}, {0x25, 2},
        {0x29, 2}, {0x23, 4}, {0x2b, 4}, {0x31, 4}, {0x39, 4}, {0x35, 8}, {0x3d, 8}};
    /** LWL, LWR, SWL, SWR. */
    private static final int[] OF_A_WORD = {0x22, 0x26, 0x2a, 0x2e};

    private BoundaryApartTest() {
    }

    public static void main(String[] args) {
        Check.sentence("1, if one is a STORE and the other one a STORE or LOAD",
                BoundaryApartTest::storeAndLoad);
        Check.sentence("unless they are APART: ... no byte in common",
                BoundaryApartTest::noByteInCommon);
        Check.sentence("unless they are APART: ... no byte in common",
                BoundaryApartTest::byteAfterByte);
        Check.sentence("of LWL to SWR those of the word in which the address lies",
                BoundaryApartTest::bytesOfTheWord);
        Check.sentence("from the offset, its two lowest bits taken off, on",
                BoundaryApartTest::bytesOfTwoWords);
        Check.sentence("the numbers s and offset taken as they are, without going round",
                BoundaryApartTest::withoutGoingRoundAtTheEnds);
        Check.sentence("the numbers s and offset taken as they are, without going round",
                BoundaryApartTest::withoutGoingRoundByRegisterZero);
        Check.sentence("both have the same s", BoundaryApartTest::theSameS);
        Check.sentence("which neither i nor any instruction between both writes",
                BoundaryApartTest::writtenBetween);
        Check.sentence("which neither i nor any instruction between both writes",
                BoundaryApartTest::writtenByTheFirstOne);
        Check.sentence("which neither i nor any instruction between both writes",
                BoundaryApartTest::notWrittenBetween);
        Check.sentence("register 0 is neither read nor written",
                BoundaryApartTest::registerZeroIsNeverWritten);
        Check.sentence("which neither i nor any instruction between both writes",
                BoundaryApartTest::onlyBetweenBoth);
        Check.sentence("1, if one is a STORE and the other one a STORE or LOAD",
                BoundaryApartTest::latenciesHaveNoPart);
        Check.end();
    }

    private static int at(int operation, int offset) {
        return Asm.immediate(operation, BASE, 2, offset);
    }

    /** Of another register and fraction than at()'s, so that bytes alone have a part in it. */
    private static int another(int operation, int offset) {
        return Asm.immediate(operation, BASE, 6, offset);
    }

    private static void storeAndLoad() {
        int[] loads = {0x20, 0x21, 0x22, 0x23, 0x24, 0x25, 0x26, 0x31, 0x35};
        int[] stores = {0x28, 0x29, 0x2a, 0x2b, 0x2e, 0x39, 0x3d};
        for (int store : stores) {
            for (int other : stores) {
                Check.same("two stores", 1, Blocks.lastOnFirst(
                        Asm.immediate(store, 5, 2, 0), Asm.immediate(other, 6, 2, 64)));
            }
            for (int load : loads) {
                Check.same("a load behind a store", 1, Blocks.lastOnFirst(
                        Asm.immediate(store, 5, 2, 0), Asm.immediate(load, 6, 8, 64)));
                Check.same("a store behind a load", 1, Blocks.lastOnFirst(
                        Asm.immediate(load, 5, 8, 0), Asm.immediate(store, 6, 2, 64)));
            }
        }
        for (int load : loads) {
            for (int other : loads) {
                Check.same("two loads", NONE, Blocks.lastOnFirst(
                        Asm.immediate(load, 5, 8, 0), Asm.immediate(other, 5, 10, 0)));
            }
        }
        Check.same("PREF is none of them", NONE,
                Blocks.lastOnFirst(Asm.sw(2, 0, 5), Asm.immediate(0x33, 5, 2, 0)));
    }

    private static void noByteInCommon() {
        for (int[] one : SIZES) {
            for (int offset : new int[] {-9, -1, 0, 1, 6}) {
                for (int probe = offset - 2; probe <= offset + one[1] + 1; probe++) {
                    boolean common = probe >= offset && probe < offset + one[1];
                    String what = "operation " + one[0] + " at " + offset + ", SB at " + probe;
                    Check.same(what, common ? 1 : NONE,
                            Blocks.lastOnFirst(at(one[0], offset), Asm.sb(3, probe, BASE)));
                    Check.same(what + " before it", common ? 1 : NONE,
                            Blocks.lastOnFirst(Asm.sb(3, probe, BASE), at(one[0], offset)));
                }
            }
        }
    }

    private static void byteAfterByte() {
        for (int[] one : SIZES) {
            for (int store : new int[] {0x28, 0x29, 0x2b, 0x39, 0x3d}) {
                Check.same("the store just behind", NONE,
                        Blocks.lastOnFirst(at(one[0], 0), another(store, one[1])));
                Check.same("the store one byte earlier", 1,
                        Blocks.lastOnFirst(at(one[0], 0), another(store, one[1] - 1)));
            }
        }
    }

    private static void bytesOfTheWord() {
        for (int operation : OF_A_WORD) {
            for (int offset = -8; offset <= 7; offset++) {
                int first = offset < -4 ? -8 : offset < 0 ? -4 : offset < 4 ? 0 : 4;
                for (int probe = -10; probe <= 9; probe++) {
                    boolean common = probe >= first && probe <= first + 3;
                    Check.same("operation " + operation + " at " + offset + ", SB at " + probe,
                            common ? 1 : NONE,
                            Blocks.lastOnFirst(at(operation, offset), Asm.sb(3, probe, BASE)));
                }
            }
        }
    }

    private static void bytesOfTwoWords() {
        for (int operation : OF_A_WORD) {
            Check.same("the ends of one word", 1,
                    Blocks.lastOnFirst(at(operation, 4), Asm.swr(3, 7, BASE)));
            Check.same("neighbours of two words", NONE,
                    Blocks.lastOnFirst(at(operation, 4), Asm.swl(3, 3, BASE)));
            Check.same("neighbours below 0", NONE,
                    Blocks.lastOnFirst(at(operation, 0), Asm.swl(3, -1, BASE)));
            Check.same("a word that is not aligned reaches into both", 1,
                    Blocks.lastOnFirst(at(operation, 3), Asm.sw(3, 3, BASE)));
        }
    }

    private static void withoutGoingRoundAtTheEnds() {
        for (int[] one : SIZES) {
            Check.same("at the highest, and the lowest byte", NONE,
                    Blocks.lastOnFirst(at(one[0], HIGHEST), Asm.sb(3, LOWEST, BASE)));
            Check.same("at the highest, and a double at the lowest", NONE,
                    Blocks.lastOnFirst(at(one[0], HIGHEST), Asm.sdc1(6, LOWEST, BASE)));
            Check.same("at the lowest, and a word at the highest", NONE,
                    Blocks.lastOnFirst(at(one[0], LOWEST), Asm.sw(3, HIGHEST, BASE)));
            Check.same("both at the highest", 1,
                    Blocks.lastOnFirst(at(one[0], HIGHEST), Asm.sb(3, HIGHEST, BASE)));
            Check.same("both at the lowest", 1,
                    Blocks.lastOnFirst(at(one[0], LOWEST), Asm.sb(3, LOWEST, BASE)));
            Check.same("just before the highest", NONE,
                    Blocks.lastOnFirst(at(one[0], HIGHEST), Asm.sb(3, HIGHEST - 1, BASE)));
        }
        for (int operation : OF_A_WORD) {
            Check.same("the highest word", 1,
                    Blocks.lastOnFirst(at(operation, HIGHEST), Asm.sb(3, 32764, BASE)));
            Check.same("before the highest word", NONE,
                    Blocks.lastOnFirst(at(operation, HIGHEST), Asm.sb(3, 32763, BASE)));
            Check.same("the lowest word", 1,
                    Blocks.lastOnFirst(at(operation, LOWEST), Asm.sb(3, -32765, BASE)));
            Check.same("behind the lowest word", NONE,
                    Blocks.lastOnFirst(at(operation, LOWEST), Asm.sb(3, -32764, BASE)));
            Check.same("the highest and the lowest", NONE,
                    Blocks.lastOnFirst(at(operation, HIGHEST), Asm.swr(3, LOWEST, BASE)));
        }
    }

    private static void withoutGoingRoundByRegisterZero() {
        Check.same("the words round address 0", NONE,
                Blocks.lastOnFirst(Asm.sw(2, -4, 0), Asm.sw(3, 0, 0)));
        Check.same("a word over address 0", 1,
                Blocks.lastOnFirst(Asm.sw(2, -1, 0), Asm.sb(3, 0, 0)));
        Check.same("it ends at 2", 1, Blocks.lastOnFirst(Asm.sw(2, -1, 0), Asm.sb(3, 2, 0)));
        Check.same("and not at 3", NONE, Blocks.lastOnFirst(Asm.sw(2, -1, 0), Asm.sb(3, 3, 0)));
        Check.same("-1 is not 65535 bytes on", NONE,
                Blocks.lastOnFirst(Asm.sb(2, -1, 0), Asm.sb(3, HIGHEST, 0)));
    }

    private static void theSameS() {
        for (int s = 0; s < 32; s++) {
            Check.same("the same " + s, NONE,
                    Blocks.lastOnFirst(Asm.sw(2, 0, s), Asm.sw(3, 64, s)));
            Check.same("another one than " + s, 1,
                    Blocks.lastOnFirst(Asm.sw(2, 0, s), Asm.sw(3, 64, s ^ 1)));
            Check.same("0 is no more than others: " + s, s == 0 ? NONE : 1,
                    Blocks.lastOnFirst(Asm.sw(2, 0, 0), Asm.sw(3, 64, s)));
        }
    }

    private static void writtenBetween() {
        int[] writers = {Asm.addiu(BASE, BASE, 8), Asm.lui(BASE, 1), Asm.addu(BASE, 8, 9),
            Asm.special(0x00, 0, 8, BASE), Asm.special2(0x20, 8, 0, BASE),
            Asm.special(0x0a, 8, 9, BASE), Asm.special(0x01, 8, 0, BASE), Asm.mfc1(BASE, 8),
            Asm.mflo(BASE), Asm.mul(BASE, 8, 9), Asm.lw(BASE, 0, 8), Asm.lwr(BASE, 0, 8),
            Asm.lb(BASE, 64, BASE)};
        for (int writer : writers) {
            String name = Integer.toHexString(writer);
            Check.same(name + " alone", 1,
                    Blocks.lastOnFirst(Asm.sw(2, 0, BASE), writer, Asm.sw(3, 8, BASE)));
            Check.same(name + " just behind i", 1, Blocks.lastOnFirst(
                    Asm.sw(2, 0, BASE), writer, Asm.NOP, Asm.NOP, Asm.lw(3, 8, BASE)));
            Check.same(name + " just before j", 1, Blocks.lastOnFirst(
                    Asm.lw(2, 0, BASE), Asm.NOP, Asm.NOP, writer, Asm.sw(3, 8, BASE)));
        }
    }

    private static void writtenByTheFirstOne() {
        SlotFiller x = Blocks.of(Asm.lw(BASE, 0, BASE), Asm.sw(3, 8, BASE));
        for (int cycles : new int[] {1, 2, 40}) {
            x.latency(1, cycles);
            Check.same("and j reads it, too", cycles, x.depends(1, 0));
        }
    }

    private static void notWrittenBetween() {
        int[] others = {Asm.NOP, Asm.addu(8, BASE, BASE), Asm.sw(BASE, 64, BASE),
            Asm.lwc1(BASE, 64, BASE), Asm.ldc1(BASE, 64, BASE), Asm.mtc1(BASE, BASE),
            Asm.fraction(0, Asm.S, BASE, BASE, BASE), Asm.addiu(5, BASE, 8), Asm.mult(BASE, BASE),
            Asm.sync(), Asm.immediate(0x33, BASE, BASE, 0)};
        for (int other : others) {
            Check.same(Integer.toHexString(other) + " writes another thing or none", NONE,
                    Blocks.lastOnFirst(Asm.sw(2, 0, BASE), other, Asm.sw(3, 8, BASE)));
        }
    }

    private static void registerZeroIsNeverWritten() {
        Check.same("LUI into 0 between", NONE,
                Blocks.lastOnFirst(Asm.sw(2, 0, 0), Asm.lui(0, 1), Asm.sw(3, 8, 0)));
        Check.same("the first one loads into 0", NONE,
                Blocks.lastOnFirst(Asm.lw(0, 0, 0), Asm.sw(3, 8, 0)));
        Check.same("and the same bytes", 1,
                Blocks.lastOnFirst(Asm.lw(0, 0, 0), Asm.sw(3, 0, 0)));
    }

    private static void onlyBetweenBoth() {
        SlotFiller x = Blocks.of(Asm.addiu(BASE, BASE, 8), Asm.sw(2, 0, BASE), Asm.sw(3, 8, BASE),
                Asm.addiu(BASE, BASE, 8), Asm.sw(2, 0, BASE), Asm.sw(3, 8, BASE));
        Check.same("written before both and behind both", NONE, x.depends(2, 1));
        Check.same("written before both", NONE, x.depends(5, 4));
        Check.same("written between, other bytes", 1, x.depends(5, 1));
        Check.same("written between, the first ones", 1, x.depends(4, 2));
        SlotFiller y = Blocks.of(Asm.lw(BASE, 0, 8), Asm.lw(9, 0, BASE), Asm.sw(3, 8, BASE));
        Check.same("written just before i", NONE, y.depends(2, 1));
    }

    private static void latenciesHaveNoPart() {
        SlotFiller x = Blocks.of(Asm.lw(2, 0, 5), Asm.sw(3, 0, 6), Asm.lw(7, 0, 5));
        x.latency(1, 40);
        x.latency(2, 40);
        Check.same("a store behind a load", 1, x.depends(1, 0));
        Check.same("a load behind a store", 1, x.depends(2, 1));
    }
}
