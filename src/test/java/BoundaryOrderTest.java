/** The ORDER: each boundary case by itself. */
final class BoundaryOrderTest {
    private BoundaryOrderTest() {
    }

    public static void main(String[] args) {
        Check.sentence("The ORDER: cycle by cycle, from 0 on", BoundaryOrderTest::ofNoneAndOfOne);
        Check.sentence("in a cycle without one none comes", BoundaryOrderTest::aCycleWithoutOne);
        Check.sentence("in a cycle without one none comes",
                BoundaryOrderTest::severalCyclesWithoutOne);
        Check.sentence("each at least so many cycles ago as it depends on it by",
                BoundaryOrderTest::exactlySoManyCyclesAgo);
        Check.sentence("of which all on which they depend were placed",
                BoundaryOrderTest::allOnWhichTheyDepend);
        Check.sentence("the one with the greatest height comes in this cycle",
                BoundaryOrderTest::theGreatestHeight);
        Check.sentence("of several the first one of the block",
                BoundaryOrderTest::ofSeveralTheFirstOne);
        Check.sentence("the branch left aside ... Then the branch",
                BoundaryOrderTest::theBranchIsLeftAside);
        Check.sentence("When it is not wanted, the order is the block's",
                BoundaryOrderTest::notWanted);
        Check.sentence("The ORDER: cycle by cycle, from 0 on", BoundaryOrderTest::fortyInARow);
        Check.sentence("of several the first one of the block",
                BoundaryOrderTest::fortyBesideOneAnother);
        Check.sentence("the one with the greatest height", BoundaryOrderTest::byTheLatenciesOfNow);
        Check.end();
    }

    private static int[] words(int... words) {
        return words;
    }

    private static Integer[] upTo(int many) {
        Integer[] row = new Integer[many];
        for (int k = 0; k < many; k++) {
            row[k] = k;
        }
        return row;
    }

    private static void ofNoneAndOfOne() {
        Check.comes("of none", true, false, words());
        Check.comes("of one", true, false, words(Asm.div(5, 6)), 0);
        Check.comes("of a branch", true, false, words(Asm.j()), 0, -1);
    }

    private static void aCycleWithoutOne() {
        // In cycle 1 none is ready; in cycle 2 both that read the load, the higher one first.
        Check.comes("both ready at once", true, true, words(Asm.lw(5, 0, 20), Asm.addu(6, 5, 5),
                Asm.addu(7, 5, 5), Asm.addu(8, 7, 7)), 0, 2, 1, 3);
        SlotFiller x = Check.comes("the load's wait", true, true,
                words(Asm.lw(5, 0, 20), Asm.addu(6, 5, 5)), 0, 1);
        Check.same("a cycle is lost", 3, x.cycles());
    }

    private static void severalCyclesWithoutOne() {
        SlotFiller x = Check.comes("a DIV's wait", true, true,
                words(Asm.div(5, 6), Asm.mflo(7), Asm.addu(8, 7, 7), Asm.lui(9, 1)), 0, 3, 1, 2);
        Check.same("eighteen are lost", 22, x.cycles());
        // MFLO waits to cycle 20, ADD.S to cycle 15: what is ready first comes first.
        Check.comes("two waits", true, true, words(Asm.div(5, 6),
                Asm.fraction(4, Asm.S, 1, 2, 0), Asm.mflo(7), Asm.mfc1(8, 1)), 0, 1, 3, 2);
    }

    private static void exactlySoManyCyclesAgo() {
        // ADDU 6 may come in cycle 2, not in cycle 1, and is then higher than LUI 9.
        Check.comes("a load's two", true, true, words(Asm.lw(5, 0, 20), Asm.addu(6, 5, 5),
                Asm.addu(7, 6, 6), Asm.lui(8, 1), Asm.lui(9, 1), Asm.lui(10, 1)),
                0, 3, 1, 2, 4, 5);
        // MFLO may come in cycle 4, behind three that have a cycle each.
        Check.comes("a MULT's four", true, true, words(Asm.mult(5, 6), Asm.mflo(7),
                Asm.addu(8, 7, 7), Asm.lui(9, 1), Asm.lui(10, 1), Asm.lui(11, 1), Asm.lui(12, 1)),
                0, 3, 4, 5, 1, 2, 6);
    }

    private static void allOnWhichTheyDepend() {
        // In cycle 1 ADDU 6 has to wait, and ADDU 7 with it.
        Check.comes("what waits for one that waits", true, true, words(Asm.lw(5, 0, 20),
                Asm.addu(6, 5, 5), Asm.addu(7, 6, 6)), 0, 1, 2);
        // ADDU 7 is as high as the LUIs and before them, but both that it reads come first.
        Check.comes("of a load and a LUI", true, true, words(Asm.lw(6, 0, 20), Asm.lui(5, 1),
                Asm.addu(7, 5, 6), Asm.lui(9, 1)), 0, 1, 2, 3);
        Check.comes("one placed, the other one not", true, true, words(Asm.lui(5, 1),
                Asm.lw(6, 0, 20), Asm.addu(7, 5, 6), Asm.addu(8, 6, 6), Asm.addu(9, 8, 8),
                Asm.addu(10, 9, 9)), 1, 0, 3, 4, 2, 5);
    }

    private static void theGreatestHeight() {
        Check.comes("the last one of the block", true, true, words(Asm.lui(5, 1), Asm.lui(6, 1),
                Asm.lw(7, 0, 20), Asm.div(8, 9)), 3, 2, 0, 1);
        Check.comes("each higher than the one before it", true, true, words(Asm.lui(5, 1),
                Asm.lw(7, 0, 20), Asm.fraction(0, Asm.S, 1, 2, 3), Asm.mult(8, 9),
                Asm.fraction(4, Asm.S, 4, 5, 0)), 4, 3, 2, 1, 0);
    }

    private static void ofSeveralTheFirstOne() {
        Check.comes("two loads before two LUIs", true, true, words(Asm.lui(5, 1),
                Asm.lw(6, 0, 20), Asm.lui(7, 1), Asm.lw(8, 0, 20)), 1, 3, 0, 2);
        // In cycle 2 ADDU 6 has just become ready, LUI 8 has been so from 0 on.
        Check.comes("also when it was not ready before", true, true, words(Asm.lw(5, 0, 20),
                Asm.addu(6, 5, 5), Asm.lui(7, 1), Asm.lui(8, 1)), 0, 2, 1, 3);
    }

    private static void theBranchIsLeftAside() {
        // The branch would be ready in cycle 1, when MFLO is not.
        Check.comes("a branch that could come earlier", true, false,
                words(Asm.div(5, 6), Asm.mflo(7), Asm.j()), 0, 1, 2, -1);
        Check.comes("a branch as high as the last one", true, false,
                words(Asm.lw(5, 0, 20), Asm.addu(6, 5, 5), Asm.beq(8, 0)), 0, 1, 2, -1);
        Check.comes("a branch that waits itself", true, false,
                words(Asm.lui(6, 1), Asm.lw(5, 0, 20), Asm.beq(5, 0)), 1, 0, 2, -1);
    }

    private static void notWanted() {
        int[] words = words(Asm.lui(5, 1), Asm.lw(6, 0, 20), Asm.addu(7, 6, 6), Asm.div(8, 9));
        Check.comes("wanted", true, false, words, 3, 1, 0, 2);
        Check.comes("not wanted", false, false, words, 0, 1, 2, 3);
        Check.comes("of none", false, false, words());
        Check.comes("of one", false, true, words(Asm.lui(5, 1)), 0);
        int[] many = new int[40];
        for (int i = 0; i < 40; i++) {
            many[i] = i % 2 == 0 ? Asm.lui(5, i) : Asm.lw(6, i, 20);
        }
        Check.comes("of forty", false, true, many, upTo(40));
    }

    private static void fortyInARow() {
        SlotFiller x = Blocks.ofMany(40, Asm.lw(5, 0, 5));
        x.latency(1, 40);
        Check.same("all come, however long it takes", 40, x.schedule(true, true));
        Check.cameFrom("in a row", x, upTo(40));
        Check.same("39 times 40, and 1", 1561, x.cycles());
    }

    private static void fortyBesideOneAnother() {
        SlotFiller x = Blocks.ofMany(40, Asm.NOP);
        x.schedule(true, true);
        Check.cameFrom("in the block's order", x, upTo(40));
        Check.same("one in each cycle", 40, x.cycles());
    }

    private static void byTheLatenciesOfNow() {
        SlotFiller x = Blocks.of(Asm.lui(5, 1), Asm.lw(6, 0, 20), Asm.mult(8, 9));
        x.schedule(true, true);
        Check.cameFrom("at first", x, 2, 1, 0);
        x.latency(0, 40);
        x.latency(1, 40);
        x.schedule(true, true);
        Check.cameFrom("told since", x, 0, 1, 2);
    }
}
