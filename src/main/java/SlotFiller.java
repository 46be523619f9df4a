/**
 * Orders the instructions of a block of MIPS32 as a compiler does at its end: by what depends on
 * what and how long, the branch last, its slot filled where an instruction can be spared.
 */
public final class SlotFiller {
    public static final int NONE = -1;

    private static final int MOST_INSTRUCTIONS = 40;
    private static final int MOST_WORDS = MOST_INSTRUCTIONS + 1;
    private static final int GREATEST_LATENCY = 40;
    // No instruction waits longer than a latency behind the one placed before it.
    private static final int MOST_CYCLES = MOST_INSTRUCTIONS * (GREATEST_LATENCY + 1);
    private static final int NOP = 0;

    private final Block block;
    private final Order order;
    private final Outcome outcome;
    private boolean through;

    public SlotFiller() {
        block = new Block();
        order = new Order();
        outcome = new Outcome();
        through = false;
    }

    public int latency(int of, int cycles) throws IllegalArgumentException {
        if (of < Form.PLAIN || of > Form.ROOT) {
            throw new IllegalArgumentException("no class that has a latency to be told");
        }
        if (cycles < 1 || cycles > GREATEST_LATENCY) {
            throw new IllegalArgumentException("no such latency");
        }
        int before = block.latencies[of];
        block.latencies[of] = cycles;
        return before;
    }

    public int add(int word) throws IllegalArgumentException, IllegalStateException {
        int form = Decoder.formOf(word);
        if (form == Form.NO_FORM) {
            throw new IllegalArgumentException("no such instruction");
        }
        if (!through && block.isClosed()) {
            throw new IllegalStateException("the block takes no more");
        }
        if (through) {
            block.empty();
            through = false;
        }
        block.append(word, form);
        return Form.kindOf(form);
    }

    public int schedule(boolean ordering, boolean filling) {
        through = true;
        block.survey();
        if (ordering) {
            order.byHeights(block);
        } else {
            order.asInBlock(block);
        }
        outcome.take(block, order, filling);
        return outcome.size;
    }

    public int word(int k) throws IndexOutOfBoundsException {
        if (k < 0 || k >= outcome.size) {
            throw new IndexOutOfBoundsException("no such word came out");
        }
        return outcome.words[k];
    }

    public int from(int k) throws IndexOutOfBoundsException {
        if (k < 0 || k >= outcome.size) {
            throw new IndexOutOfBoundsException("no such word came out");
        }
        return outcome.origins[k];
    }

    public int depends(int j, int i) throws IndexOutOfBoundsException {
        if (!block.holds(j) || !block.holds(i)) {
            throw new IndexOutOfBoundsException("no such instruction in the block");
        }
        int distance = block.distance(j, i);
        return distance == 0 ? NONE : distance;
    }

    public int height(int i) throws IndexOutOfBoundsException {
        if (!block.holds(i)) {
            throw new IndexOutOfBoundsException("no such instruction in the block");
        }
        block.survey();
        return block.heights[i];
    }

    public int cycles() {
        return outcome.duration;
    }

    public int count(int what) {
        switch (what) {
            case 0:
                return block.size;
            case 1:
                return outcome.size;
            case 2:
                return outcome.ownNops;
            case 3:
                return outcome.filled;
            default:
                return NONE;
        }
    }

    /**
     * What an instruction is, in one int, so that none needs an object: its class in the lowest
     * bits, and a flag for each thing that it reads or writes.
     */
    private static final class Form {
        static final int NO_FORM = -1;

        static final int PLAIN = 0;
        static final int LOAD = 1;
        static final int STORE = 2;
        static final int TIMES = 3;
        static final int BY = 4;
        static final int FRACTION = 5;
        static final int ROOT = 6;
        static final int BRANCH = 7;
        static final int BARRIER = 8;
        static final int KIND_BITS = 15;

        static final int READS_S = 1 << 4;
        static final int READS_T = 1 << 5;
        static final int READS_D = 1 << 6;
        static final int WRITES_T = 1 << 7;
        static final int WRITES_D = 1 << 8;
        static final int WRITES_LINK = 1 << 9;
        static final int READS_PRODUCTS = 1 << 10;
        static final int WRITES_PRODUCTS = 1 << 11;
        static final int READS_CONDITIONS = 1 << 12;
        static final int WRITES_CONDITIONS = 1 << 13;
        static final int READS_FS = 1 << 14;
        static final int READS_FT = 1 << 15;
        static final int READS_FD = 1 << 16;
        static final int WRITES_FS = 1 << 17;
        static final int WRITES_FT = 1 << 18;
        static final int WRITES_FD = 1 << 19;
        static final int DOUBLE_FS = 1 << 20;
        static final int DOUBLE_FT = 1 << 21;
        static final int DOUBLE_FD = 1 << 22;
        static final int LIKELY = 1 << 23;

        static int kindOf(int form) {
            return form & KIND_BITS;
        }

        static boolean has(int form, int flag) {
            return (form & flag) != 0;
        }
    }

    /** The fields of a word; fractions stand where general registers or the shift do. */
    private static final class Fields {
        static int operation(int word) {
            return word >>> 26;
        }

        static int s(int word) {
            return (word >>> 21) & 31;
        }

        static int t(int word) {
            return (word >>> 16) & 31;
        }

        static int d(int word) {
            return (word >>> 11) & 31;
        }

        static int fractionT(int word) {
            return t(word);
        }

        static int fractionS(int word) {
            return d(word);
        }

        static int fractionD(int word) {
            return (word >>> 6) & 31;
        }

        static int function(int word) {
            return word & 63;
        }

        static int offset(int word) {
            return (short) word;
        }
    }

    /** Tells a word's form; the codes are those of the manual's tables. */
    private static final class Decoder {
        private static final int SHIFT = Form.PLAIN | Form.READS_T | Form.WRITES_D;
        private static final int THREE = Form.PLAIN | Form.READS_S | Form.READS_T | Form.WRITES_D;
        private static final int MOVE_IF_REGISTER = THREE | Form.READS_D;
        private static final int MOVE_IF_CONDITION =
                Form.PLAIN | Form.READS_S | Form.READS_D | Form.READS_CONDITIONS | Form.WRITES_D;
        private static final int FROM_PRODUCTS =
                Form.PLAIN | Form.READS_PRODUCTS | Form.WRITES_D;
        private static final int TO_PRODUCTS =
                Form.PLAIN | Form.READS_S | Form.READS_PRODUCTS | Form.WRITES_PRODUCTS;
        private static final int MULTIPLY =
                Form.TIMES | Form.READS_S | Form.READS_T | Form.WRITES_PRODUCTS;
        private static final int DIVIDE =
                Form.BY | Form.READS_S | Form.READS_T | Form.WRITES_PRODUCTS;
        private static final int BRANCH_ON_ONE = Form.BRANCH | Form.READS_S;
        private static final int BRANCH_ON_TWO = BRANCH_ON_ONE | Form.READS_T;
        private static final int BRANCH_ON_CONDITION = Form.BRANCH | Form.READS_CONDITIONS;
        private static final int IMMEDIATE = Form.PLAIN | Form.READS_S | Form.WRITES_T;
        private static final int LOADING = Form.LOAD | Form.READS_S | Form.WRITES_T;
        private static final int LOADING_FRACTION = Form.LOAD | Form.READS_S | Form.WRITES_FT;
        private static final int STORING = Form.STORE | Form.READS_S | Form.READS_T;
        private static final int STORING_FRACTION = Form.STORE | Form.READS_S | Form.READS_FT;
        private static final int OF_ONE_FRACTION =
                Form.FRACTION | Form.READS_FS | Form.WRITES_FD;
        private static final int OF_TWO_FRACTIONS = OF_ONE_FRACTION | Form.READS_FT;
        private static final int COMPARE = Form.FRACTION | Form.READS_FS | Form.READS_FT
                | Form.READS_CONDITIONS | Form.WRITES_CONDITIONS;

        private static final int SINGLE = 16;
        private static final int DOUBLE = 17;
        private static final int WHOLE = 20;

        static int formOf(int word) {
            int form = formByOperation(word);
            if (form == Form.NO_FORM || hasOddDouble(word, form)) {
                return Form.NO_FORM;
            }
            return form;
        }

        private static boolean hasOddDouble(int word, int form) {
            int odd = 0;
            if (Form.has(form, Form.DOUBLE_FS)) {
                odd |= Fields.fractionS(word);
            }
            if (Form.has(form, Form.DOUBLE_FT)) {
                odd |= Fields.fractionT(word);
            }
            if (Form.has(form, Form.DOUBLE_FD)) {
                odd |= Fields.fractionD(word);
            }
            return (odd & 1) != 0;
        }

        private static int formByOperation(int word) {
            int operation = Fields.operation(word);
            switch (operation) {
                case 0x00:
                    return special(Fields.function(word));
                case 0x01:
                    return byRegisterField(Fields.t(word));
                case 0x11:
                    return coprocessor(word);
                case 0x1c:
                    return special2(Fields.function(word));
                default:
                    return operation < 0x20 ? immediateOrBranch(operation) : memory(operation);
            }
        }

        private static int special(int function) {
            switch (function) {
                case 0x00: // SLL
                case 0x02: // SRL
                case 0x03: // SRA
                    return SHIFT;
                case 0x01: // MOVF, MOVT
                    return MOVE_IF_CONDITION;
                case 0x08: // JR
                    return BRANCH_ON_ONE;
                case 0x09: // JALR
                    return BRANCH_ON_ONE | Form.WRITES_D;
                case 0x0a: // MOVZ
                case 0x0b: // MOVN
                    return MOVE_IF_REGISTER;
                case 0x10: // MFHI
                case 0x12: // MFLO
                    return FROM_PRODUCTS;
                case 0x11: // MTHI
                case 0x13: // MTLO
                    return TO_PRODUCTS;
                case 0x18: // MULT
                case 0x19: // MULTU
                    return MULTIPLY;
                case 0x1a: // DIV
                case 0x1b: // DIVU
                    return DIVIDE;
                default:
                    return threeOrBarrier(function);
            }
        }

        private static int threeOrBarrier(int function) {
            switch (function) {
                case 0x04: // SLLV
                case 0x06: // SRLV
                case 0x07: // SRAV
                case 0x21: // ADDU
                case 0x23: // SUBU
                case 0x24: // AND
                case 0x25: // OR
                case 0x26: // XOR
                case 0x27: // NOR
                case 0x2a: // SLT
                case 0x2b: // SLTU
                    return THREE;
                case 0x0c: // SYSCALL
                case 0x0d: // BREAK
                case 0x0f: // SYNC
                case 0x20: // ADD
                case 0x22: // SUB
                case 0x30: // TGE
                case 0x31: // TGEU
                case 0x32: // TLT
                case 0x33: // TLTU
                case 0x34: // TEQ
                case 0x36: // TNE
                    return Form.BARRIER;
                default:
                    return Form.NO_FORM;
            }
        }

        private static int special2(int function) {
            switch (function) {
                case 0x00: // MADD
                case 0x01: // MADDU
                case 0x04: // MSUB
                case 0x05: // MSUBU
                    return MULTIPLY | Form.READS_PRODUCTS;
                case 0x02: // MUL
                    return MULTIPLY | Form.WRITES_D;
                case 0x20: // CLZ
                case 0x21: // CLO
                    return Form.PLAIN | Form.READS_S | Form.WRITES_D;
                default:
                    return Form.NO_FORM;
            }
        }

        private static int byRegisterField(int code) {
            switch (code) {
                case 0x00: // BLTZ
                case 0x01: // BGEZ
                    return BRANCH_ON_ONE;
                case 0x02: // BLTZL
                case 0x03: // BGEZL
                    return BRANCH_ON_ONE | Form.LIKELY;
                case 0x08: // TGEI
                case 0x09: // TGEIU
                case 0x0a: // TLTI
                case 0x0b: // TLTIU
                case 0x0c: // TEQI
                case 0x0e: // TNEI
                    return Form.BARRIER;
                case 0x10: // BLTZAL
                case 0x11: // BGEZAL
                    return BRANCH_ON_ONE | Form.WRITES_LINK;
                default:
                    return Form.NO_FORM;
            }
        }

        private static int immediateOrBranch(int operation) {
            switch (operation) {
                case 0x02: // J
                    return Form.BRANCH;
                case 0x03: // JAL
                    return Form.BRANCH | Form.WRITES_LINK;
                case 0x04: // BEQ
                case 0x05: // BNE
                    return BRANCH_ON_TWO;
                case 0x06: // BLEZ
                case 0x07: // BGTZ
                    return BRANCH_ON_ONE;
                case 0x14: // BEQL
                case 0x15: // BNEL
                    return BRANCH_ON_TWO | Form.LIKELY;
                case 0x16: // BLEZL
                case 0x17: // BGTZL
                    return BRANCH_ON_ONE | Form.LIKELY;
                case 0x08: // ADDI
                    return Form.BARRIER;
                case 0x09: // ADDIU
                case 0x0a: // SLTI
                case 0x0b: // SLTIU
                case 0x0c: // ANDI
                case 0x0d: // ORI
                case 0x0e: // XORI
                    return IMMEDIATE;
                case 0x0f: // LUI
                    return Form.PLAIN | Form.WRITES_T;
                default:
                    return Form.NO_FORM;
            }
        }

        private static int memory(int operation) {
            switch (operation) {
                case 0x20: // LB
                case 0x21: // LH
                case 0x23: // LW
                case 0x24: // LBU
                case 0x25: // LHU
                    return LOADING;
                case 0x22: // LWL
                case 0x26: // LWR
                    return LOADING | Form.READS_T;
                case 0x28: // SB
                case 0x29: // SH
                case 0x2a: // SWL
                case 0x2b: // SW
                case 0x2e: // SWR
                    return STORING;
                case 0x30: // LL
                case 0x38: // SC
                    return Form.BARRIER;
                case 0x31: // LWC1
                    return LOADING_FRACTION;
                case 0x33: // PREF
                    return Form.PLAIN | Form.READS_S;
                case 0x35: // LDC1
                    return LOADING_FRACTION | Form.DOUBLE_FT;
                case 0x39: // SWC1
                    return STORING_FRACTION;
                case 0x3d: // SDC1
                    return STORING_FRACTION | Form.DOUBLE_FT;
                default:
                    return Form.NO_FORM;
            }
        }

        private static int coprocessor(int word) {
            int function = Fields.function(word);
            switch (Fields.s(word)) {
                case 0x00: // MFC1
                    return Form.PLAIN | Form.READS_FS | Form.WRITES_T;
                case 0x04: // MTC1
                    return Form.PLAIN | Form.READS_T | Form.WRITES_FS;
                case 0x08: // BC1F, BC1T, BC1FL, BC1TL
                    return (Fields.t(word) & 2) == 0
                            ? BRANCH_ON_CONDITION : BRANCH_ON_CONDITION | Form.LIKELY;
                case SINGLE:
                    return function == 0x21 // CVT.D.S
                            ? OF_ONE_FRACTION | Form.DOUBLE_FD : fraction(function);
                case DOUBLE:
                    return function == 0x20 // CVT.S.D
                            ? OF_ONE_FRACTION | Form.DOUBLE_FS : doubled(function);
                case WHOLE:
                    return ofWhole(function);
                default:
                    return Form.NO_FORM;
            }
        }

        private static int ofWhole(int function) {
            switch (function) {
                case 0x20: // CVT.S.W
                    return OF_ONE_FRACTION;
                case 0x21: // CVT.D.W
                    return OF_ONE_FRACTION | Form.DOUBLE_FD;
                default:
                    return Form.NO_FORM;
            }
        }

        private static int doubled(int function) {
            int form = fraction(function);
            if (form == Form.NO_FORM) {
                return Form.NO_FORM;
            }
            int doubles = Form.has(form, Form.READS_FS) ? Form.DOUBLE_FS : 0;
            if (Form.has(form, Form.READS_FT)) {
                doubles |= Form.DOUBLE_FT;
            }
            if (Form.has(form, Form.WRITES_FD) && !answersWhole(function)) {
                doubles |= Form.DOUBLE_FD;
            }
            return form | doubles;
        }

        private static boolean answersWhole(int function) {
            return function >= 0x0c && function <= 0x0f || function == 0x24;
        }

        /** The functions that formats S and D have in common, as of format S. */
        private static int fraction(int function) {
            switch (function) {
                case 0x00: // ADD
                case 0x01: // SUB
                case 0x02: // MUL
                    return OF_TWO_FRACTIONS;
                case 0x03: // DIV
                    return Form.ROOT | Form.READS_FS | Form.READS_FT | Form.WRITES_FD;
                case 0x04: // SQRT
                    return Form.ROOT | Form.READS_FS | Form.WRITES_FD;
                case 0x05: // ABS
                case 0x06: // MOV
                case 0x07: // NEG
                case 0x0c: // ROUND.W
                case 0x0d: // TRUNC.W
                case 0x0e: // CEIL.W
                case 0x0f: // FLOOR.W
                case 0x24: // CVT.W
                    return OF_ONE_FRACTION;
                case 0x11: // MOVF, MOVT
                    return OF_ONE_FRACTION | Form.READS_FD | Form.READS_CONDITIONS;
                case 0x12: // MOVZ
                case 0x13: // MOVN
                    return OF_ONE_FRACTION | Form.READS_FD | Form.READS_T;
                default:
                    return function >= 0x30 ? COMPARE : Form.NO_FORM; // C.cond
            }
        }
    }

    /** What an instruction reads and writes, as sets of bits. */
    private static final class Things {
        private static final int LINK = 31;
        private static final long PRODUCTS = 1L << 32;
        private static final long CONDITIONS = 1L << 33;

        static long reads(int word, int form) {
            long set = 0;
            if (Form.has(form, Form.READS_S)) {
                set |= register(Fields.s(word));
            }
            if (Form.has(form, Form.READS_T)) {
                set |= register(Fields.t(word));
            }
            if (Form.has(form, Form.READS_D)) {
                set |= register(Fields.d(word));
            }
            if (Form.has(form, Form.READS_PRODUCTS)) {
                set |= PRODUCTS;
            }
            if (Form.has(form, Form.READS_CONDITIONS)) {
                set |= CONDITIONS;
            }
            return set;
        }

        static long writes(int word, int form) {
            long set = 0;
            if (Form.has(form, Form.WRITES_T)) {
                set |= register(Fields.t(word));
            }
            if (Form.has(form, Form.WRITES_D)) {
                set |= register(Fields.d(word));
            }
            if (Form.has(form, Form.WRITES_LINK)) {
                set |= register(LINK);
            }
            if (Form.has(form, Form.WRITES_PRODUCTS)) {
                set |= PRODUCTS;
            }
            if (Form.has(form, Form.WRITES_CONDITIONS)) {
                set |= CONDITIONS;
            }
            return set;
        }

        static int readsFractions(int word, int form) {
            int set = 0;
            if (Form.has(form, Form.READS_FS)) {
                set |= fractionS(word, form);
            }
            if (Form.has(form, Form.READS_FT)) {
                set |= fractionT(word, form);
            }
            if (Form.has(form, Form.READS_FD)) {
                set |= fractionD(word, form);
            }
            return set;
        }

        static int writesFractions(int word, int form) {
            int set = 0;
            if (Form.has(form, Form.WRITES_FS)) {
                set |= fractionS(word, form);
            }
            if (Form.has(form, Form.WRITES_FT)) {
                set |= fractionT(word, form);
            }
            if (Form.has(form, Form.WRITES_FD)) {
                set |= fractionD(word, form);
            }
            return set;
        }

        static long register(int number) {
            return number == 0 ? 0 : 1L << number;
        }

        private static int fractionS(int word, int form) {
            return fraction(Fields.fractionS(word), Form.has(form, Form.DOUBLE_FS));
        }

        private static int fractionT(int word, int form) {
            return fraction(Fields.fractionT(word), Form.has(form, Form.DOUBLE_FT));
        }

        private static int fractionD(int word, int form) {
            return fraction(Fields.fractionD(word), Form.has(form, Form.DOUBLE_FD));
        }

        private static int fraction(int number, boolean isDouble) {
            return (isDouble ? 3 : 1) << number;
        }
    }

    /** Which bytes a LOAD or STORE touches, counted from what its register s holds. */
    private static final class Bytes {
        static int first(int word) {
            int offset = Fields.offset(word);
            return touchesWholeWord(Fields.operation(word)) ? offset & ~3 : offset;
        }

        static int many(int word) {
            switch (Fields.operation(word)) {
                case 0x20: // LB
                case 0x24: // LBU
                case 0x28: // SB
                    return 1;
                case 0x21: // LH
                case 0x25: // LHU
                case 0x29: // SH
                    return 2;
                case 0x35: // LDC1
                case 0x3d: // SDC1
                    return 8;
                default:
                    return 4;
            }
        }

        private static boolean touchesWholeWord(int operation) {
            return operation == 0x22 // LWL
                    || operation == 0x26 // LWR
                    || operation == 0x2a // SWL
                    || operation == 0x2e; // SWR
        }
    }

    /** The instructions in the order in which they were added, and what follows from it. */
    private static final class Block {
        private static final int[] FIRST_LATENCIES = {1, 2, 1, 4, 20, 3, 15, 1, 1};

        final int[] latencies = FIRST_LATENCIES.clone();
        int size = 0;
        final int[] words = new int[MOST_INSTRUCTIONS];
        final int[] kinds = new int[MOST_INSTRUCTIONS];
        final boolean[] likely = new boolean[MOST_INSTRUCTIONS];
        final long[] reads = new long[MOST_INSTRUCTIONS];
        final long[] writes = new long[MOST_INSTRUCTIONS];
        final int[] readsFractions = new int[MOST_INSTRUCTIONS];
        final int[] writesFractions = new int[MOST_INSTRUCTIONS];
        final int[] bases = new int[MOST_INSTRUCTIONS];
        final int[] firstBytes = new int[MOST_INSTRUCTIONS];
        final int[] endBytes = new int[MOST_INSTRUCTIONS];
        // The last earlier instruction that writes this one's base, so that nobody searches again.
        final int[] baseWriters = new int[MOST_INSTRUCTIONS];
        final int[] heights = new int[MOST_INSTRUCTIONS];
        final boolean[] needed = new boolean[MOST_INSTRUCTIONS];

        boolean holds(int i) {
            return i >= 0 && i < size;
        }

        boolean endsInBranch() {
            return size > 0 && kinds[size - 1] == Form.BRANCH;
        }

        boolean isClosed() {
            return size >= MOST_INSTRUCTIONS || endsInBranch();
        }

        int sizeWithoutBranch() {
            return endsInBranch() ? size - 1 : size;
        }

        void empty() {
            size = 0;
        }

        void append(int word, int form) {
            if (size >= MOST_INSTRUCTIONS) {
                return;
            }
            words[size] = word;
            kinds[size] = Form.kindOf(form);
            likely[size] = Form.has(form, Form.LIKELY);
            reads[size] = Things.reads(word, form);
            writes[size] = Things.writes(word, form);
            readsFractions[size] = Things.readsFractions(word, form);
            writesFractions[size] = Things.writesFractions(word, form);
            bases[size] = Fields.s(word);
            firstBytes[size] = Bytes.first(word);
            endBytes[size] = firstBytes[size] + Bytes.many(word);
            baseWriters[size] = lastWriter(Things.register(bases[size]));
            size++;
        }

        private int lastWriter(long register) {
            for (int i = size - 1; i >= 0; i--) {
                if ((writes[i] & register) != 0) {
                    return i;
                }
            }
            return NONE;
        }

        private int latencyOf(int i) {
            return latencies[kinds[i]];
        }

        /** By how many cycles j depends on i; 0 when it does not. */
        int distance(int j, int i) {
            if (i >= j) {
                return 0;
            }
            int most = mustFollow(j, i) ? 1 : 0;
            if (meet(writes[i], reads[j], writesFractions[i], readsFractions[j])) {
                most = Math.max(most, latencyOf(i));
            }
            if (meet(writes[i], writes[j], writesFractions[i], writesFractions[j])) {
                most = Math.max(most, Math.max(1, latencyOf(i) - latencyOf(j) + 1));
            }
            return most;
        }

        private boolean mustFollow(int j, int i) {
            return meet(reads[i], writes[j], readsFractions[i], writesFractions[j])
                    || kinds[i] == Form.BARRIER
                    || kinds[j] == Form.BARRIER
                    || bothInMemory(j, i) && !areApart(j, i);
        }

        private static boolean meet(long a, long b, int fractionsOfA, int fractionsOfB) {
            return (a & b) != 0 || (fractionsOfA & fractionsOfB) != 0;
        }

        private boolean bothInMemory(int j, int i) {
            int one = kinds[j];
            int other = kinds[i];
            return one == Form.STORE && (other == Form.STORE || other == Form.LOAD)
                    || one == Form.LOAD && other == Form.STORE;
        }

        private boolean areApart(int j, int i) {
            boolean sameBase = bases[j] == bases[i] && baseWriters[j] < i;
            return sameBase && (endBytes[j] <= firstBytes[i] || endBytes[i] <= firstBytes[j]);
        }

        /** Heights, and which ones others depend on, by the latencies of now. */
        void survey() {
            for (int i = size - 1; i >= 0; i--) {
                int most = 0;
                for (int j = i + 1; j < size; j++) {
                    int distance = distance(j, i);
                    if (distance > 0) {
                        most = Math.max(most, heights[j] + distance);
                    }
                }
                needed[i] = most > 0;
                heights[i] = needed[i] ? most : latencyOf(i);
            }
        }
    }

    /** The order of a block's instructions, the branch left aside. */
    private static final class Order {
        int size = 0;
        final int[] places = new int[MOST_INSTRUCTIONS];
        private final boolean[] placed = new boolean[MOST_INSTRUCTIONS];
        // On how many that are not placed yet an instruction depends.
        private final int[] waits = new int[MOST_INSTRUCTIONS];
        private final int[] earliest = new int[MOST_INSTRUCTIONS];

        void asInBlock(Block block) {
            size = block.sizeWithoutBranch();
            for (int i = 0; i < size; i++) {
                places[i] = i;
            }
        }

        void byHeights(Block block) {
            int many = block.sizeWithoutBranch();
            prepare(block, many);
            size = 0;
            for (int cycle = 0; cycle < MOST_CYCLES && size < many; cycle++) {
                int next = choose(block, many, cycle);
                if (next != NONE) {
                    place(block, many, next, cycle);
                }
            }
        }

        private void prepare(Block block, int many) {
            for (int j = 0; j < many; j++) {
                placed[j] = false;
                earliest[j] = 0;
                waits[j] = 0;
                for (int i = 0; i < j; i++) {
                    if (block.distance(j, i) > 0) {
                        waits[j]++;
                    }
                }
            }
        }

        private int choose(Block block, int many, int cycle) {
            int best = NONE;
            for (int i = 0; i < many; i++) {
                boolean ready = !placed[i] && waits[i] == 0 && earliest[i] <= cycle;
                if (ready && (best == NONE || block.heights[i] > block.heights[best])) {
                    best = i;
                }
            }
            return best;
        }

        private void place(Block block, int many, int i, int cycle) {
            places[size] = i;
            size++;
            placed[i] = true;
            for (int j = i + 1; j < many; j++) {
                int distance = block.distance(j, i);
                if (distance > 0) {
                    waits[j]--;
                    earliest[j] = Math.max(earliest[j], cycle + distance);
                }
            }
        }
    }

    /** What came out; it keeps its own copy, for the block may be a new one when it is asked. */
    private static final class Outcome {
        int size = 0;
        final int[] words = new int[MOST_WORDS];
        final int[] origins = new int[MOST_WORDS];
        int duration = 0;
        int ownNops = 0;
        int filled = 0;
        private final int[] starts = new int[MOST_WORDS];

        void take(Block block, Order order, boolean filling) {
            size = 0;
            ownNops = 0;
            filled = 0;
            int spared = filling ? spare(block, order) : NONE;
            for (int k = 0; k < order.size; k++) {
                if (order.places[k] != spared) {
                    put(block, order.places[k]);
                }
            }
            if (block.endsInBranch()) {
                put(block, block.size - 1);
                fillSlot(block, spared);
            }
            duration = run(block);
        }

        private static int spare(Block block, Order order) {
            if (!block.endsInBranch() || block.likely[block.size - 1]) {
                return NONE;
            }
            for (int k = order.size - 1; k >= 0; k--) {
                int i = order.places[k];
                if (!block.needed[i] && block.kinds[i] != Form.BARRIER) {
                    return i;
                }
            }
            return NONE;
        }

        private void fillSlot(Block block, int spared) {
            put(block, spared);
            if (spared == NONE) {
                ownNops++;
            } else {
                filled = 1;
            }
        }

        private void put(Block block, int origin) {
            if (size >= MOST_WORDS) {
                return;
            }
            words[size] = origin == NONE ? NOP : block.words[origin];
            origins[size] = origin;
            size++;
        }

        private int run(Block block) {
            for (int k = 0; k < size; k++) {
                int start = k == 0 ? 0 : starts[k - 1] + 1;
                for (int m = 0; m < k; m++) {
                    start = Math.max(start, starts[m] + distanceOf(block, k, m));
                }
                starts[k] = start;
            }
            return size == 0 ? 0 : starts[size - 1] + 1;
        }

        private int distanceOf(Block block, int k, int m) {
            if (origins[k] == NONE || origins[m] == NONE) {
                return 0;
            }
            return block.distance(origins[k], origins[m]);
        }
    }
}
