/** Terms, INSTRUCTIONS: each sentence there that names a boundary case, by itself. */
final class BoundaryInstructionsTest {
    private static final int NONE = SlotFiller.NONE;
    private static final int FD = 1;
    private static final int FS = 2;
    private static final int FT = 4;

    private BoundaryInstructionsTest() {
    }

    public static void main(String[] args) {
        Check.sentence("register 0 is neither read nor written",
                BoundaryInstructionsTest::registerZero);
        Check.sentence("register 0 is neither read nor written",
                BoundaryInstructionsTest::registerZeroOfProducts);
        Check.sentence("register 0 is neither read nor written",
                BoundaryInstructionsTest::registerZeroIsLinkedToByNone);
        Check.sentence("register 0 is neither read nor written; fd, fs, ft fractions",
                BoundaryInstructionsTest::fractionZeroIsAsAnyOther);
        Check.sentence("of format D each with the one behind it, too",
                BoundaryInstructionsTest::doublesTakeTheOneBehindThem);
        Check.sentence("of format D each with the one behind it, too",
                BoundaryInstructionsTest::doublesAreReadWhole);
        Check.sentence("of format D ... an odd one there is none",
                BoundaryInstructionsTest::oddDoubles);
        Check.sentence("fd, which is of the result's format, W as S",
                BoundaryInstructionsTest::resultsFormat);
        Check.sentence("C with any condition", BoundaryInstructionsTest::anyCondition);
        Check.sentence("FRACTION, of formats S and D ... CVT.S (of D, W), CVT.D (of S, W)",
                BoundaryInstructionsTest::formatsOfFractions);
        Check.sentence("traps (TGE .. TNE, TGEI .. TNEI)",
                BoundaryInstructionsTest::trapsFromFirstToLast);
        Check.sentence("all these with L behind (LIKELY); J; JAL ... BLTZAL BGEZAL",
                BoundaryInstructionsTest::likelyOnes);
        Check.sentence("Fields that an instruction does not have are not looked at",
                BoundaryInstructionsTest::fieldsNotLookedAt);
        Check.sentence("MFC1's, MTC1's, LWC1's and SWC1's fractions are single ones",
                BoundaryInstructionsTest::singlesAlsoWhereADoubleIsMeant);
        Check.sentence("SLL with all fields 0 is NOP", BoundaryInstructionsTest::nop);
        Check.sentence("of these there are", BoundaryInstructionsTest::wordsAtTheEnds);
        Check.end();
    }

    /** Each writes register n alone, and none but MOVZ, MOVF and LWL read it. */
    private static int[] writersOf(int n) {
        return new int[] {
            Asm.special(0x00, 0, 5, n), Asm.special(0x04, 5, 6, n), Asm.addu(n, 5, 6),
            Asm.addiu(n, 5, 1), Asm.immediate(0x0d, 5, n, 1), Asm.lui(n, 1),
            Asm.special2(0x20, 5, 0, n), Asm.special(0x0a, 5, 6, n), Asm.special(0x01, 5, 0, n),
            Asm.mfc1(n, 4), Asm.lb(n, 0, 5), Asm.lh(n, 0, 5), Asm.lw(n, 0, 5), Asm.lwl(n, 0, 5),
            Asm.lwr(n, 0, 5), Asm.immediate(0x24, 5, n, 0), Asm.immediate(0x25, 5, n, 0)};
    }

    /** Each reads register n, and has nothing else in common with the writers. */
    private static int[] readersOf(int n) {
        return new int[] {
            Asm.special(0x03, 0, n, 8), Asm.special(0x06, n, 7, 8), Asm.special(0x07, 7, n, 8),
            Asm.addu(8, n, 7), Asm.addu(8, 7, n), Asm.addiu(8, n, 1),
            Asm.special2(0x21, n, 0, 8), Asm.special(0x0b, n, 7, 8), Asm.special(0x0b, 7, n, 8),
            Asm.special(0x01, n, 0, 8), Asm.immediate(0x33, n, 1, 0), Asm.mtc1(n, 6),
            Asm.lw(8, 0, n), Asm.lwc1(8, 0, n), Asm.mult(n, 7), Asm.mult(7, n), Asm.div(n, 7),
            Asm.madd(7, n), Asm.mtlo(n), Asm.fraction(0x12, Asm.S, 8, 10, n), Asm.beq(n, 7),
            Asm.beq(7, n), Asm.immediate(0x06, n, 0, 4), Asm.immediate(1, n, 0, 4),
            Asm.immediate(1, n, 0x11, 4), Asm.jr(n), Asm.jalr(8, n)};
    }

    private static void registerZero() {
        for (int n : new int[] {0, 1, 30}) {
            for (int writer : writersOf(n)) {
                for (int reader : readersOf(n)) {
                    String pair = Integer.toHexString(writer) + ", " + Integer.toHexString(reader);
                    int latency = Blocks.kind(writer) == 1 ? 2 : 1;
                    Check.same("register " + n + " written, then read: " + pair,
                            n == 0 ? NONE : latency, Blocks.lastOnFirst(writer, reader));
                    if (Blocks.kind(reader) != 7) {
                        Check.same("register " + n + " read, then written: " + pair,
                                n == 0 ? NONE : 1, Blocks.lastOnFirst(reader, writer));
                    }
                }
            }
            Check.same("register " + n + " written twice", n == 0 ? NONE : 2,
                    Blocks.lastOnFirst(Asm.lw(n, 0, 5), Asm.addu(n, 7, 7)));
        }
        Check.same("stored", NONE, Blocks.lastOnFirst(Asm.lui(0, 1), Asm.sw(0, 0, 5)));
        Check.same("stored to", NONE, Blocks.lastOnFirst(Asm.lui(0, 1), Asm.sw(5, 0, 0)));
    }

    private static void registerZeroOfProducts() {
        Check.same("MUL into 0", NONE, Blocks.lastOnFirst(Asm.mul(0, 5, 6), Asm.addu(8, 0, 0)));
        Check.same("MUL into 0 has PRODUCTS", 4, Blocks.lastOnFirst(Asm.mul(0, 5, 6), Asm.mflo(8)));
        Check.same("MFLO into 0", NONE, Blocks.lastOnFirst(Asm.mflo(0), Asm.addu(8, 0, 0)));
        Check.same("MULT of 0", NONE, Blocks.lastOnFirst(Asm.lw(0, 0, 5), Asm.mult(0, 0)));
    }

    private static void registerZeroIsLinkedToByNone() {
        Check.same("JALR into 0", NONE, Blocks.lastOnFirst(Asm.addu(8, 0, 0), Asm.jalr(0, 5)));
        Check.same("JALR into 0 leaves 31", NONE,
                Blocks.lastOnFirst(Asm.addu(8, 31, 0), Asm.jalr(0, 5)));
        Check.same("JALR into 31", 1, Blocks.lastOnFirst(Asm.addu(8, 31, 0), Asm.jalr(31, 5)));
    }

    private static void fractionZeroIsAsAnyOther() {
        Check.same("LWC1, MFC1", 2, Blocks.lastOnFirst(Asm.lwc1(0, 0, 5), Asm.mfc1(8, 0)));
        Check.same("MTC1, MFC1", 1, Blocks.lastOnFirst(Asm.mtc1(0, 0), Asm.mfc1(8, 0)));
        Check.same("MFC1, MTC1", 1, Blocks.lastOnFirst(Asm.mfc1(0, 0), Asm.mtc1(8, 0)));
        Check.same("ADD.S, SWC1", 3, Blocks.lastOnFirst(
                Asm.fraction(0, Asm.S, 0, 5, 7), Asm.swc1(0, 0, 5)));
        Check.same("ADD.S, ADD.S", 1, Blocks.lastOnFirst(
                Asm.fraction(0, Asm.S, 0, 5, 7), Asm.fraction(0, Asm.S, 0, 5, 7)));
    }

    /** Each writes fraction e of format D. */
    private static int[] writersOfDouble(int e) {
        int other = e == 12 ? 20 : 12;
        return new int[] {
            Asm.fraction(0, Asm.D, e, other, other), Asm.fraction(3, Asm.D, e, other, other),
            Asm.fraction(4, Asm.D, e, other, 0), Asm.fraction(5, Asm.D, e, other, 0),
            Asm.fraction(6, Asm.D, e, other, 0), Asm.fraction(0x11, Asm.D, e, other, 0),
            Asm.fraction(0x13, Asm.D, e, other, 0), Asm.fraction(0x21, Asm.S, e, other, 0),
            Asm.fraction(0x21, Asm.W, e, other, 0), Asm.ldc1(e, 0, 5)};
    }

    /** Each reads fraction e of format D, and of those written none is near it. */
    private static int[] readersOfDouble(int e) {
        int other = e == 12 ? 20 : 12;
        return new int[] {
            Asm.fraction(0, Asm.D, other, e, other), Asm.fraction(0, Asm.D, other, other, e),
            Asm.fraction(3, Asm.D, other, e, other), Asm.fraction(4, Asm.D, other, e, 0),
            Asm.fraction(7, Asm.D, other, e, 0), Asm.fraction(0x12, Asm.D, other, e, 0),
            Asm.fraction(0x11, Asm.D, other, e, 0), Asm.fraction(0x20, Asm.D, other, e, 0),
            Asm.fraction(0x24, Asm.D, other, e, 0), Asm.fraction(0x0d, Asm.D, other, e, 0),
            Asm.fraction(0x30, Asm.D, 0, e, other), Asm.fraction(0x3f, Asm.D, 0, other, e),
            Asm.sdc1(e, 0, 5)};
    }

    private static void doublesTakeTheOneBehindThem() {
        int[] latencies = {1, 2, 1, 4, 20, 3, 15};
        for (int e : new int[] {0, 2, 16, 30}) {
            for (int writer : writersOfDouble(e)) {
                int latency = latencies[Blocks.kind(writer)];
                for (int fraction = e - 2; fraction <= e + 3; fraction++) {
                    boolean within = fraction == e || fraction == e + 1;
                    // Behind 31 and before 0 it does not go round.
                    Check.same(Integer.toHexString(writer) + " writes fraction " + fraction,
                            within ? latency : NONE,
                            Blocks.lastOnFirst(writer, Asm.mfc1(8, fraction & 31)));
                }
            }
        }
    }

    private static void doublesAreReadWhole() {
        for (int e : new int[] {0, 2, 16, 30}) {
            for (int reader : readersOfDouble(e)) {
                for (int fraction = e - 2; fraction <= e + 3; fraction++) {
                    boolean within = fraction == e || fraction == e + 1;
                    Check.same(Integer.toHexString(reader) + " reads fraction " + fraction,
                            within ? 2 : NONE,
                            Blocks.lastOnFirst(Asm.lwc1(fraction & 31, 0, 5), asRead(reader)));
                }
            }
        }
    }

    /** SDC1 away from the load's bytes, so that memory has no part in it. */
    private static int asRead(int reader) {
        return Blocks.kind(reader) == 2 ? reader | 8 : reader;
    }

    private static void oddDoubles() {
        for (int function : new int[] {0, 1, 2, 3}) {
            odd(Asm.D, function, FD | FS | FT);
        }
        for (int function : new int[] {4, 5, 6, 7, 0x11, 0x12, 0x13}) {
            odd(Asm.D, function, FD | FS);
        }
        for (int function : new int[] {0x0c, 0x0d, 0x0e, 0x0f, 0x20, 0x24}) {
            odd(Asm.D, function, FS);
        }
        for (int function = 0x30; function <= 0x3f; function++) {
            odd(Asm.D, function, FS | FT);
            odd(Asm.S, function, 0);
        }
        for (int function : new int[] {0, 1, 2, 3, 4, 5, 6, 7, 0x0c, 0x0d, 0x0e, 0x0f, 0x11, 0x12,
            0x13, 0x24}) {
            odd(Asm.S, function, 0);
        }
        odd(Asm.S, 0x21, FD);
        odd(Asm.W, 0x21, FD);
        odd(Asm.W, 0x20, 0);
        for (int n = 0; n < 32; n++) {
            Check.same("LDC1 of " + n, n % 2 == 0 ? 1 : NONE, Blocks.kind(Asm.ldc1(n, 0, 5)));
            Check.same("SDC1 of " + n, n % 2 == 0 ? 2 : NONE, Blocks.kind(Asm.sdc1(n, 0, 5)));
        }
    }

    /** Odd ones in each field, and in some together: refused where a double is among them. */
    private static void odd(int format, int function, int doubles) {
        int kind = function == 3 || function == 4 ? 6 : 5;
        for (int number : new int[] {1, 3, 29, 31}) {
            for (int fields = 0; fields < 8; fields++) {
                int word = Asm.fraction(function, format, (fields & FD) != 0 ? number : 2,
                        (fields & FS) != 0 ? number : 4, (fields & FT) != 0 ? number : 6);
                Check.same("class of " + Integer.toHexString(word) + " with " + number,
                        (fields & doubles) != 0 ? NONE : kind, Blocks.kind(word));
            }
        }
    }

    private static void resultsFormat() {
        for (int function : new int[] {0x0c, 0x0d, 0x0e, 0x0f, 0x20, 0x24}) {
            int word = Asm.fraction(function, Asm.D, 2, 4, 0);
            Check.same("writes fd", 3, Blocks.lastOnFirst(word, Asm.mfc1(8, 2)));
            Check.same("writes fd alone", NONE, Blocks.lastOnFirst(word, Asm.mfc1(8, 3)));
        }
        for (int format : new int[] {Asm.S, Asm.W}) {
            int word = Asm.fraction(0x21, format, 2, 4, 0);
            Check.same("writes fd's second half", 3, Blocks.lastOnFirst(word, Asm.mfc1(8, 3)));
            Check.same("reads fs", 2, Blocks.lastOnFirst(Asm.lwc1(4, 0, 5), word));
            Check.same("reads fs alone", NONE, Blocks.lastOnFirst(Asm.lwc1(5, 0, 5), word));
        }
        Check.same("CVT.S.W reads fs alone", NONE, Blocks.lastOnFirst(
                Asm.lwc1(5, 0, 5), Asm.fraction(0x20, Asm.W, 2, 4, 0)));
    }

    private static void anyCondition() {
        for (int function = 0x30; function <= 0x3f; function++) {
            for (int format : new int[] {Asm.S, Asm.D}) {
                // cc is the upper three bits of fd's place.
                for (int cc = 0; cc < 8; cc++) {
                    int word = Asm.fraction(function, format, cc << 2, 2, 4);
                    Check.same("class", 5, Blocks.kind(word));
                    Check.same("CONDITIONS written", 3,
                            Blocks.lastOnFirst(word, Asm.bc1t(false)));
                }
            }
            Check.same("of W there is none", NONE,
                    Blocks.kind(Asm.fraction(function, Asm.W, 0, 2, 4)));
        }
        Check.same("before the first condition", NONE,
                Blocks.kind(Asm.fraction(0x2f, Asm.S, 0, 2, 4)));
    }

    private static void formatsOfFractions() {
        for (int format = 0; format < 32; format++) {
            boolean known = format == Asm.S || format == Asm.D;
            // 0, 4 and 8 are MFC1, MTC1 and BC1F.
            int others = format == 0 || format == 4 ? 0 : format == 8 ? 7 : NONE;
            Check.same("ADD of format " + format, known ? 5 : others,
                    Blocks.kind(Asm.fraction(0, format, 2, 4, 0)));
            Check.same("SQRT of format " + format, known ? 6 : others,
                    Blocks.kind(Asm.fraction(4, format, 2, 4, 0)));
            Check.same("CVT.W of format " + format, known ? 5 : others,
                    Blocks.kind(Asm.fraction(0x24, format, 2, 4, 0)));
            boolean toS = format == Asm.D || format == Asm.W;
            Check.same("CVT.S of format " + format, toS ? 5 : others,
                    Blocks.kind(Asm.fraction(0x20, format, 2, 4, 0)));
            boolean toD = format == Asm.S || format == Asm.W;
            Check.same("CVT.D of format " + format, toD ? 5 : others,
                    Blocks.kind(Asm.fraction(0x21, format, 2, 4, 0)));
        }
    }

    private static void trapsFromFirstToLast() {
        int[] due = {8, 8, 8, 8, 8, NONE, 8, NONE};
        for (int k = 0; k < due.length; k++) {
            Check.same("function " + (0x30 + k), due[k],
                    Blocks.kind(Asm.special(0x30 + k, 5, 6, 7)));
            Check.same("rt " + (8 + k), due[k], Blocks.kind(Asm.immediate(1, 5, 8 + k, 4)));
        }
        Check.same("before TGE", NONE, Blocks.kind(Asm.special(0x2f, 5, 6, 7)));
        Check.same("before TGEI", NONE, Blocks.kind(Asm.immediate(1, 5, 7, 4)));
    }

    private static void likelyOnes() {
        int[] due = {7, 7, 7, 7, NONE, NONE, NONE, NONE};
        for (int k = 0; k < due.length; k++) {
            Check.same("BLTZ BGEZ and with L, rt " + k, due[k],
                    Blocks.kind(Asm.immediate(1, 5, k, 4)));
        }
        Check.same("BLTZAL", 7, Blocks.kind(Asm.immediate(1, 5, 0x10, 4)));
        Check.same("BGEZAL", 7, Blocks.kind(Asm.immediate(1, 5, 0x11, 4)));
        Check.same("BLTZALL stands nowhere", NONE, Blocks.kind(Asm.immediate(1, 5, 0x12, 4)));
        Check.same("BGEZALL stands nowhere", NONE, Blocks.kind(Asm.immediate(1, 5, 0x13, 4)));
        for (int operation = 0x14; operation <= 0x17; operation++) {
            Check.same("operation " + operation, 7,
                    Blocks.kind(Asm.immediate(operation, 5, 0, 4)));
        }
        for (int t = 0; t < 4; t++) {
            Check.same("BC1F BC1T and with L, " + t, 7,
                    Blocks.kind(0x11 << 26 | 8 << 21 | t << 16));
        }
    }

    private static void fieldsNotLookedAt() {
        int s = 31 << 21;
        int t = 31 << 16;
        int d = 31 << 11;
        int shift = 31 << 6;
        ones(Asm.special(0x00, 0, 5, 8), s);
        ones(Asm.special(0x02, 0, 5, 8), s);
        ones(Asm.special(0x03, 0, 5, 8), s);
        ones(Asm.special(0x04, 5, 6, 8), shift);
        ones(Asm.addu(8, 5, 6), shift);
        ones(Asm.special(0x2b, 5, 6, 8), shift);
        ones(Asm.lui(8, 1), s);
        ones(Asm.special2(0x20, 5, 0, 8), t | shift);
        ones(Asm.special(0x0a, 5, 6, 8), shift);
        ones(Asm.special(0x01, 5, 0, 8), t | shift);
        ones(Asm.immediate(0x33, 5, 0, 0), t);
        ones(Asm.mfc1(8, 4), 0x7ff);
        ones(Asm.mtc1(5, 4), 0x7ff);
        ones(Asm.special(0x10, 0, 0, 8), s | t | shift);
        ones(Asm.mtlo(5), t | d | shift);
        ones(Asm.mult(5, 6), d | shift);
        ones(Asm.madd(5, 6), d | shift);
        ones(Asm.mul(8, 5, 6), shift);
        ones(Asm.div(5, 6), d | shift);
        ones(Asm.immediate(0x06, 5, 0, 4), t);
        ones(Asm.immediate(0x17, 5, 0, 4), t);
        ones(Asm.jr(5), t | d | shift);
        ones(Asm.jalr(8, 5), t | shift);
        ones(Asm.j(), 0x03ffffff);
        ones(Asm.bc1t(false), 0x001c0000);
        for (int format : new int[] {Asm.S, Asm.D}) {
            ones(Asm.fraction(4, format, 2, 4, 0), t);
            ones(Asm.fraction(6, format, 2, 4, 0), t);
            ones(Asm.fraction(0x24, format, 2, 4, 0), t);
            ones(Asm.fraction(0x11, format, 2, 4, 0), t);
            ones(Asm.fraction(0x32, format, 0, 4, 6), shift);
        }
    }

    /** With these bits set, it is of the same class, and has no part in register or fraction 31. */
    private static void ones(int word, int bits) {
        int other = word | bits;
        String name = Integer.toHexString(other);
        Check.same("class of " + name, Blocks.kind(word), Blocks.kind(other));
        Check.same(name + " reads no 31", NONE, Blocks.lastOnFirst(Asm.lw(31, 0, 9), other));
        Check.same(name + " writes no 31", NONE, Blocks.lastOnFirst(Asm.addu(9, 31, 31), other));
        Check.same(name + " has no fraction 31", NONE,
                Blocks.lastOnFirst(Asm.lwc1(31, 0, 9), other));
        Check.same(name + " has no fraction 30", NONE,
                Blocks.lastOnFirst(Asm.ldc1(30, 0, 9), other));
    }

    private static void singlesAlsoWhereADoubleIsMeant() {
        int add = Asm.fraction(0, Asm.D, 2, 4, 6);
        for (int n = 0; n < 32; n++) {
            Check.same("MFC1 of " + n, 0, Blocks.kind(Asm.mfc1(8, n)));
            Check.same("MTC1 of " + n, 0, Blocks.kind(Asm.mtc1(8, n)));
            Check.same("LWC1 of " + n, 1, Blocks.kind(Asm.lwc1(n, 0, 5)));
            Check.same("SWC1 of " + n, 2, Blocks.kind(Asm.swc1(n, 0, 5)));
            boolean written = n == 2 || n == 3;
            boolean read = n >= 4 && n <= 7;
            Check.same("ADD.D, MFC1 " + n, written ? 3 : NONE,
                    Blocks.lastOnFirst(add, Asm.mfc1(8, n)));
            Check.same("ADD.D, SWC1 " + n, written ? 3 : NONE,
                    Blocks.lastOnFirst(add, Asm.swc1(n, 0, 5)));
            Check.same("MTC1, ADD.D " + n, read || written ? 1 : NONE,
                    Blocks.lastOnFirst(Asm.mtc1(8, n), add));
            Check.same("LWC1, ADD.D " + n, read ? 2 : written ? 1 : NONE,
                    Blocks.lastOnFirst(Asm.lwc1(n, 0, 5), add));
        }
        Check.same("LWC1 2, MFC1 3", NONE, Blocks.lastOnFirst(Asm.lwc1(2, 0, 5), Asm.mfc1(8, 3)));
        Check.same("MTC1 2, MFC1 3", NONE, Blocks.lastOnFirst(Asm.mtc1(7, 2), Asm.mfc1(8, 3)));
        Check.same("SWC1 2, MTC1 3", NONE, Blocks.lastOnFirst(Asm.swc1(2, 0, 5), Asm.mtc1(8, 3)));
        Check.same("MFC1 2, MTC1 3", NONE, Blocks.lastOnFirst(Asm.mfc1(7, 2), Asm.mtc1(8, 3)));
    }

    private static void nop() {
        Check.same("its class", 0, Blocks.kind(0));
        SlotFiller x = Blocks.of(Asm.lw(5, 0, 6), Asm.sw(5, 0, 6), Asm.NOP, Asm.addu(7, 5, 5),
                Asm.NOP, Asm.jalr(31, 5));
        for (int k : new int[] {2, 4}) {
            Check.same("height", 1, x.height(k));
            for (int i = 0; i < 6; i++) {
                Check.same("a NOP on " + i, NONE, x.depends(k, i));
                Check.same(i + " on a NOP", NONE, x.depends(i, k));
            }
        }
    }

    private static void wordsAtTheEnds() {
        Check.same("the lowest word, an LB", 1, Blocks.kind(Integer.MIN_VALUE));
        Check.same("the highest word", NONE, Blocks.kind(Integer.MAX_VALUE));
        Check.same("-1", NONE, Blocks.kind(-1));
        Check.same("the highest that there is, an SDC1", 2, Blocks.kind(0xf7feffff));
        Check.same("the first of the operation behind it", NONE, Blocks.kind(0xf8000000));
        int[] due = {NONE, NONE, 7, 7, 7, 7, 7, 7, 8, 0, 0, 0, 0, 0, 0, 0,
            NONE, NONE, NONE, NONE, 7, 7, 7, 7, NONE, NONE, NONE, NONE, NONE, NONE, NONE, NONE,
            1, 1, 1, 1, 1, 1, 1, NONE, 2, 2, 2, 2, NONE, NONE, 2, NONE,
            8, 1, NONE, 0, NONE, 1, NONE, NONE, 8, 2, NONE, NONE, NONE, 2, NONE, NONE};
        for (int operation = 2; operation < 64; operation++) {
            if (operation != 0x11 && operation != 0x1c) {
                Check.same("operation " + operation, due[operation],
                        Blocks.kind(Asm.immediate(operation, 4, 2, 8)));
            }
        }
    }
}
