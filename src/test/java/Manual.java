import java.util.ArrayList;
import java.util.HashMap;
import java.util.HashSet;
import java.util.List;
import java.util.Map;
import java.util.Set;

/**
 * The document's list of instructions once more, as text: a second way to the same answers,
 * written apart from the program so that one slip does not stand in both.
 */
final class Manual {
    /** One instruction: the bits by which it is known, its class, reads and writes. */
    static final class Entry {
        final String name;
        final int mask;
        final int bits;
        final int kind;
        final String reads;
        final String writes;

        private Entry(String name, int mask, int bits, int kind, String reads, String writes) {
            this.name = name;
            this.mask = mask;
            this.bits = bits;
            this.kind = kind;
            this.reads = reads;
            this.writes = writes;
        }

        boolean isLikely() {
            return kind == 7 && name.endsWith("L") && !name.equals("JAL");
        }
    }

    private static final int OPERATION = 63 << 26;
    private static final int FIELD_S = 31 << 21;
    private static final int FIELD_T = 31 << 16;
    private static final int FUNCTION = 63;

    static final List<Entry> ENTRIES = new ArrayList<>();
    private static final Map<Integer, Set<String>> READS = new HashMap<>();
    private static final Map<Integer, Set<String>> WRITES = new HashMap<>();

    static {
        general();
        memory();
        branches();
        barriers();
        fractions();
    }

    private Manual() {
    }

    static Entry find(int word) {
        for (Entry entry : ENTRIES) {
            if ((word & entry.mask) == entry.bits) {
                boolean odd = things(word, entry.reads).contains("odd")
                        || things(word, entry.writes).contains("odd");
                return odd ? null : entry;
            }
        }
        return null;
    }

    static Set<String> reads(int word) {
        return READS.computeIfAbsent(word, w -> things(w, find(w).reads));
    }

    static Set<String> writes(int word) {
        return WRITES.computeIfAbsent(word, w -> things(w, find(w).writes));
    }

    private static Set<String> things(int word, String names) {
        Set<String> set = new HashSet<>();
        for (String name : names.split(" ")) {
            switch (name) {
                case "s" -> set.add("r" + (word >> 21 & 31));
                case "t" -> set.add("r" + (word >> 16 & 31));
                case "d" -> set.add("r" + (word >> 11 & 31));
                case "link" -> set.add("r31");
                case "fs" -> set.add("f" + (word >> 11 & 31));
                case "ft" -> set.add("f" + (word >> 16 & 31));
                case "fd" -> set.add("f" + (word >> 6 & 31));
                case "FS" -> pair(set, word >> 11 & 31);
                case "FT" -> pair(set, word >> 16 & 31);
                case "FD" -> pair(set, word >> 6 & 31);
                case "PRODUCTS", "CONDITIONS" -> set.add(name);
                case "" -> { }
                default -> throw new IllegalStateException(name);
            }
        }
        set.remove("r0");
        return set;
    }

    private static void pair(Set<String> set, int number) {
        set.add("f" + number);
        set.add("f" + (number + 1));
        if (number % 2 == 1) {
            set.add("odd");
        }
    }

    private static void special(String names, int kind, String reads, String writes) {
        functions(names, OPERATION | FUNCTION, 0, kind, reads, writes);
    }

    private static void special2(String names, int kind, String reads, String writes) {
        functions(names, OPERATION | FUNCTION, 0x1c << 26, kind, reads, writes);
    }

    private static void operations(String names, int kind, String reads, String writes) {
        for (String pair : names.split(" ")) {
            String[] parts = pair.split(":");
            int bits = Integer.parseInt(parts[1], 16) << 26;
            ENTRIES.add(new Entry(parts[0], OPERATION, bits, kind, reads, writes));
        }
    }

    private static void byT(String names, int kind, String reads, String writes) {
        for (String pair : names.split(" ")) {
            String[] parts = pair.split(":");
            int bits = 1 << 26 | Integer.parseInt(parts[1], 16) << 16;
            ENTRIES.add(new Entry(parts[0], OPERATION | FIELD_T, bits, kind, reads, writes));
        }
    }

    private static void format(int format, String names, int kind, String reads, String writes) {
        int bits = 0x11 << 26 | format << 21;
        functions(names, OPERATION | FIELD_S | FUNCTION, bits, kind, reads, writes);
    }

    private static void functions(
            String names, int mask, int bits, int kind, String reads, String writes) {
        for (String pair : names.split(" ")) {
            String[] parts = pair.split(":");
            int all = bits | Integer.parseInt(parts[1], 16);
            ENTRIES.add(new Entry(parts[0], mask, all, kind, reads, writes));
        }
    }

    private static void general() {
        special("SLL:0 SRL:2 SRA:3", 0, "t", "d");
        special("SLLV:4 SRLV:6 SRAV:7 ADDU:21 SUBU:23 AND:24 OR:25 XOR:26 NOR:27 SLT:2a SLTU:2b",
                0, "s t", "d");
        operations("ADDIU:9 SLTI:a SLTIU:b ANDI:c ORI:d XORI:e", 0, "s", "t");
        operations("LUI:f", 0, "", "t");
        special2("CLZ:20 CLO:21", 0, "s", "d");
        special("MOVZ:a MOVN:b", 0, "s t d", "d");
        special("MOVCI:1", 0, "s d CONDITIONS", "d");
        operations("PREF:33", 0, "s", "");
        special("MFHI:10 MFLO:12", 0, "PRODUCTS", "d");
        special("MTHI:11 MTLO:13", 0, "s PRODUCTS", "PRODUCTS");
        special("MULT:18 MULTU:19", 3, "s t", "PRODUCTS");
        special2("MADD:0 MADDU:1 MSUB:4 MSUBU:5", 3, "s t PRODUCTS", "PRODUCTS");
        special2("MUL:2", 3, "s t", "d PRODUCTS");
        special("DIV:1a DIVU:1b", 4, "s t", "PRODUCTS");
    }

    private static void memory() {
        operations("LB:20 LBU:24 LH:21 LHU:25 LW:23", 1, "s", "t");
        operations("LWL:22 LWR:26", 1, "s t", "t");
        operations("LWC1:31", 1, "s", "ft");
        operations("LDC1:35", 1, "s", "FT");
        operations("SB:28 SH:29 SW:2b SWL:2a SWR:2e", 2, "s t", "");
        operations("SWC1:39", 2, "s ft", "");
        operations("SDC1:3d", 2, "s FT", "");
    }

    private static void branches() {
        operations("BEQ:4 BNE:5 BEQL:14 BNEL:15", 7, "s t", "");
        operations("BLEZ:6 BGTZ:7 BLEZL:16 BGTZL:17", 7, "s", "");
        byT("BLTZ:0 BGEZ:1 BLTZL:2 BGEZL:3", 7, "s", "");
        byT("BLTZ-AND-LINK:10 BGEZ-AND-LINK:11", 7, "s", "link");
        int mask = OPERATION | FIELD_S | 3 << 16;
        int bits = 0x11 << 26 | 8 << 21;
        ENTRIES.add(new Entry("BC1F", mask, bits, 7, "CONDITIONS", ""));
        ENTRIES.add(new Entry("BC1T", mask, bits | 1 << 16, 7, "CONDITIONS", ""));
        ENTRIES.add(new Entry("BC1FL", mask, bits | 2 << 16, 7, "CONDITIONS", ""));
        ENTRIES.add(new Entry("BC1TL", mask, bits | 3 << 16, 7, "CONDITIONS", ""));
        operations("J:2", 7, "", "");
        operations("JAL:3", 7, "", "link");
        special("JR:8", 7, "s", "");
        special("JALR:9", 7, "s", "d");
    }

    private static void barriers() {
        special("ADD:20 SUB:22 SYSCALL:c BREAK:d SYNC:f", 8, "", "");
        special("TGE:30 TGEU:31 TLT:32 TLTU:33 TEQ:34 TNE:36", 8, "", "");
        byT("TGEI:8 TGEIU:9 TLTI:a TLTIU:b TEQI:c TNEI:e", 8, "", "");
        operations("ADDI:8 LL:30 SC:38", 8, "", "");
    }

    private static void fractions() {
        int moves = OPERATION | FIELD_S;
        ENTRIES.add(new Entry("MFC1", moves, 0x11 << 26, 0, "fs", "t"));
        ENTRIES.add(new Entry("MTC1", moves, 0x11 << 26 | 4 << 21, 0, "t", "fs"));
        String two = "ADD:0 SUB:1 MUL:2";
        String one = "ABS:5 MOV:6 NEG:7";
        String toWhole = "ROUND.W:c TRUNC.W:d CEIL.W:e FLOOR.W:f CVT.W:24";
        String compare = "C:30 C:31 C:32 C:33 C:34 C:35 C:36 C:37 "
                + "C:38 C:39 C:3a C:3b C:3c C:3d C:3e C:3f";
        format(Asm.S, two, 5, "fs ft", "fd");
        format(Asm.D, two, 5, "FS FT", "FD");
        format(Asm.S, one + " " + toWhole, 5, "fs", "fd");
        format(Asm.D, one, 5, "FS", "FD");
        format(Asm.D, toWhole, 5, "FS", "fd");
        format(Asm.S, "CVT.D:21", 5, "fs", "FD");
        format(Asm.D, "CVT.S:20", 5, "FS", "fd");
        format(Asm.W, "CVT.S:20", 5, "fs", "fd");
        format(Asm.W, "CVT.D:21", 5, "fs", "FD");
        format(Asm.S, compare, 5, "fs ft CONDITIONS", "CONDITIONS");
        format(Asm.D, compare, 5, "FS FT CONDITIONS", "CONDITIONS");
        format(Asm.S, "MOVCF:11", 5, "fs fd CONDITIONS", "fd");
        format(Asm.D, "MOVCF:11", 5, "FS FD CONDITIONS", "FD");
        format(Asm.S, "MOVZ:12 MOVN:13", 5, "fs fd t", "fd");
        format(Asm.D, "MOVZ:12 MOVN:13", 5, "FS FD t", "FD");
        format(Asm.S, "DIV:3", 6, "fs ft", "fd");
        format(Asm.D, "DIV:3", 6, "FS FT", "FD");
        format(Asm.S, "SQRT:4", 6, "fs", "fd");
        format(Asm.D, "SQRT:4", 6, "FS", "FD");
    }
}
