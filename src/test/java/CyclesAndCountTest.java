/** Promises 9 and 10: the cycles of what came out, and the counts. */
final class CyclesAndCountTest {
    private CyclesAndCountTest() {
    }

    public static void main(String[] args) {
        ofNone();
        ofOrders();
        ofSlots();
        byTheLatenciesOfThen();
        counts();
        Check.end();
    }

    private static void takes(
            String what, int due, boolean ordering, boolean filling, int... words) {
        SlotFiller x = new SlotFiller();
        Check.adds(x, words);
        x.schedule(ordering, filling);
        Check.same(what, due, x.cycles());
    }

    private static void ofNone() {
        SlotFiller x = new SlotFiller();
        x.schedule(true, true);
        Check.same("of none", 0, x.cycles());
        x.add(Asm.div(2, 3));
        Check.same("before schedule()", 0, x.cycles());
        x.schedule(true, true);
        Check.same("of one, however long it is", 1, x.cycles());
    }

    private static void ofOrders() {
        takes("one by one", 3, false, false, Asm.lui(2, 1), Asm.lui(3, 1), Asm.lui(5, 1));
        takes("a load's wait", 4, false, false,
                Asm.lui(2, 1), Asm.lw(3, 0, 4), Asm.addu(5, 3, 3));
        takes("ordered, none", 3, true, false,
                Asm.lui(2, 1), Asm.lw(3, 0, 4), Asm.addu(5, 3, 3));
        takes("a DIV's wait", 21, true, true, Asm.div(2, 3), Asm.lui(5, 1), Asm.mflo(6));
        takes("a wait over others", 5, false, false,
                Asm.mult(2, 3), Asm.lui(5, 1), Asm.mflo(6));
        takes("writing over a DIV", 18, false, false, Asm.div(2, 3), Asm.mult(4, 5));
    }

    private static void ofSlots() {
        takes("a branch and its NOP", 2, true, true, Asm.j());
        takes("the branch waits", 4, true, true, Asm.lw(2, 0, 4), Asm.beq(2, 0));
        takes("the slot's does not wait for the branch", 2, true, true, Asm.NOP, Asm.j());
        takes("the slot's waits for what it needs", 5, true, true,
                Asm.mult(2, 3), Asm.mflo(5), Asm.j());
        takes("a NOP waits for none", 3, true, false, Asm.div(2, 3), Asm.j());
    }

    private static void byTheLatenciesOfThen() {
        SlotFiller x = new SlotFiller();
        Check.adds(x, Asm.lw(3, 0, 4), Asm.addu(5, 3, 3));
        x.schedule(true, true);
        x.latency(1, 10);
        Check.same("by the latencies of then", 3, x.cycles());
        x.schedule(true, true);
        Check.same("by those of now", 11, x.cycles());
        x.add(Asm.NOP);
        Check.same("a new block changes nothing", 11, x.cycles());
    }

    private static void counts() {
        SlotFiller x = new SlotFiller();
        Check.adds(x, Asm.NOP, Asm.lui(2, 1), Asm.beq(2, 0));
        counts("before schedule()", x, 3, 0, 0, 0);
        x.schedule(true, false);
        counts("not filled", x, 3, 4, 1, 0);
        x.schedule(true, true);
        counts("filled", x, 3, 3, 0, 1);
        x.add(Asm.NOP);
        counts("a new block", x, 1, 3, 0, 1);
        x.schedule(true, true);
        counts("without a branch", x, 1, 1, 0, 0);
        x.add(Asm.j());
        x.schedule(true, true);
        counts("a branch alone", x, 1, 2, 1, 0);
        int[] outside = {-1, 4, 5, Integer.MIN_VALUE, Integer.MAX_VALUE};
        for (int what : outside) {
            Check.same("count(" + what + ")", SlotFiller.NONE, x.count(what));
        }
    }

    private static void counts(String what, SlotFiller x, int... due) {
        for (int k = 0; k < due.length; k++) {
            Check.same(what + ": count(" + k + ")", due[k], x.count(k));
        }
    }
}
