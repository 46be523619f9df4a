/** Words of instructions, for tests that want to be read. */
final class Asm {
    static final int NOP = 0;
    static final int S = 16;
    static final int D = 17;
    static final int W = 20;

    private Asm() {
    }

    static int immediate(int operation, int s, int t, int low) {
        return operation << 26 | s << 21 | t << 16 | low & 0xffff;
    }

    static int special(int function, int s, int t, int d) {
        return s << 21 | t << 16 | d << 11 | function;
    }

    static int special2(int function, int s, int t, int d) {
        return 0x1c << 26 | special(function, s, t, d);
    }

    static int fraction(int function, int format, int fd, int fs, int ft) {
        return 0x11 << 26 | format << 21 | ft << 16 | fs << 11 | fd << 6 | function;
    }

    static int addu(int d, int s, int t) {
        return special(0x21, s, t, d);
    }

    static int addiu(int t, int s, int low) {
        return immediate(0x09, s, t, low);
    }

    static int lui(int t, int low) {
        return immediate(0x0f, 0, t, low);
    }

    static int lb(int t, int offset, int s) {
        return immediate(0x20, s, t, offset);
    }

    static int lh(int t, int offset, int s) {
        return immediate(0x21, s, t, offset);
    }

    static int lwl(int t, int offset, int s) {
        return immediate(0x22, s, t, offset);
    }

    static int lw(int t, int offset, int s) {
        return immediate(0x23, s, t, offset);
    }

    static int lwr(int t, int offset, int s) {
        return immediate(0x26, s, t, offset);
    }

    static int sb(int t, int offset, int s) {
        return immediate(0x28, s, t, offset);
    }

    static int sh(int t, int offset, int s) {
        return immediate(0x29, s, t, offset);
    }

    static int swl(int t, int offset, int s) {
        return immediate(0x2a, s, t, offset);
    }

    static int sw(int t, int offset, int s) {
        return immediate(0x2b, s, t, offset);
    }

    static int swr(int t, int offset, int s) {
        return immediate(0x2e, s, t, offset);
    }

    static int lwc1(int ft, int offset, int s) {
        return immediate(0x31, s, ft, offset);
    }

    static int ldc1(int ft, int offset, int s) {
        return immediate(0x35, s, ft, offset);
    }

    static int swc1(int ft, int offset, int s) {
        return immediate(0x39, s, ft, offset);
    }

    static int sdc1(int ft, int offset, int s) {
        return immediate(0x3d, s, ft, offset);
    }

    static int mult(int s, int t) {
        return special(0x18, s, t, 0);
    }

    static int div(int s, int t) {
        return special(0x1a, s, t, 0);
    }

    static int mflo(int d) {
        return special(0x12, 0, 0, d);
    }

    static int mtlo(int s) {
        return special(0x13, s, 0, 0);
    }

    static int mul(int d, int s, int t) {
        return special2(0x02, s, t, d);
    }

    static int madd(int s, int t) {
        return special2(0x00, s, t, 0);
    }

    static int mfc1(int t, int fs) {
        return 0x11 << 26 | t << 16 | fs << 11;
    }

    static int mtc1(int t, int fs) {
        return 0x11 << 26 | 4 << 21 | t << 16 | fs << 11;
    }

    static int beq(int s, int t) {
        return immediate(0x04, s, t, 16);
    }

    static int beql(int s, int t) {
        return immediate(0x14, s, t, 16);
    }

    static int bc1t(boolean likely) {
        return 0x11 << 26 | 8 << 21 | (likely ? 3 : 1) << 16 | 16;
    }

    static int j() {
        return 0x02 << 26 | 1024;
    }

    static int jal() {
        return 0x03 << 26 | 1024;
    }

    static int jr(int s) {
        return special(0x08, s, 0, 0);
    }

    static int jalr(int d, int s) {
        return special(0x09, s, 0, d);
    }

    static int syscall() {
        return 0x0c;
    }

    static int sync() {
        return 0x0f;
    }
}
