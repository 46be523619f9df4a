/** DEPENDS, but for memory, and promise 7: each boundary case by itself. */
final class BoundaryDependsTest {
    private static final int NONE = SlotFiller.NONE;
    private static final int PLAIN = 0;
    private static final int LOAD = 1;
    private static final int TIMES = 3;
    private static final int BY = 4;
    /** One of each class but BRANCH, none with anything in common with another one. */
    private static final int[] APART = {Asm.lui(5, 1), Asm.lw(6, 0, 20), Asm.mult(21, 22),
        Asm.fraction(0, Asm.S, 1, 2, 3), Asm.fraction(3, Asm.S, 7, 8, 9), Asm.NOP};

    private BoundaryDependsTest() {
    }

    public static void main(String[] args) {
        Check.sentence("An instruction j DEPENDS on an earlier one i",
                BoundaryDependsTest::onAnEarlierOneAlone);
        Check.sentence("i's latency, if j reads what i writes",
                BoundaryDependsTest::readsWhatIsWritten);
        Check.sentence("1, if j writes what i reads", BoundaryDependsTest::writesWhatIsRead);
        Check.sentence("if j writes what i writes, i's latency less j's and 1 more",
                BoundaryDependsTest::writesWhatIsWritten);
        Check.sentence("if j writes what i writes ... but 1 at least",
                BoundaryDependsTest::oneAtLeast);
        Check.sentence("the greatest of these that hold", BoundaryDependsTest::theGreatest);
        Check.sentence("1, if one of both is a BARRIER", BoundaryDependsTest::oneOfBothABarrier);
        Check.sentence("CONDITIONS are one thing", BoundaryDependsTest::conditionsAreOneThing);
        Check.sentence("PRODUCTS too", BoundaryDependsTest::productsAreOneThing);
        Check.sentence("NONE when it does not", BoundaryDependsTest::noneWhenNoneHolds);
        Check.sentence("if j reads what i writes", BoundaryDependsTest::overOthersBetween);
        Check.sentence("by the latencies of now", BoundaryDependsTest::byTheLatenciesOfNow);
        Check.sentence("IndexOutOfBoundsException: there is no such (j)",
                BoundaryDependsTest::noSuchJ);
        Check.sentence("IndexOutOfBoundsException: there is no such (i)",
                BoundaryDependsTest::noSuchI);
        Check.sentence("IndexOutOfBoundsException: there is no such (neither)",
                BoundaryDependsTest::neither);
        Check.sentence("IndexOutOfBoundsException: there is no such (no block)",
                BoundaryDependsTest::noneInABlockOfNone);
        Check.sentence("instruction j of the block", BoundaryDependsTest::behindScheduleAndAdd);
        Check.end();
    }

    private static void onAnEarlierOneAlone() {
        int[][] blocks = {{Asm.addu(5, 5, 5), Asm.addu(5, 5, 5), Asm.addu(5, 5, 5)},
            {Asm.sync(), Asm.sync(), Asm.sync()},
            {Asm.sw(5, 0, 6), Asm.sw(5, 0, 6), Asm.sw(5, 0, 6)},
            {Asm.madd(5, 6), Asm.madd(5, 6), Asm.jalr(5, 5)}};
        for (int[] words : blocks) {
            SlotFiller x = Blocks.of(words);
            for (int j = 0; j < 3; j++) {
                for (int i = j; i < 3; i++) {
                    Check.same("depends(" + j + ", " + i + ")", NONE, x.depends(j, i));
                }
            }
            Check.same("on the earlier one: depends(1, 0)",
                    words[0] == Asm.madd(5, 6) ? 4 : 1, x.depends(1, 0));
        }
    }

    private static void readsWhatIsWritten() {
        SlotFiller x = Blocks.of(Asm.lw(5, 0, 6), Asm.addu(7, 5, 8));
        for (int cycles : new int[] {1, 2, 39, 40}) {
            x.latency(LOAD, cycles);
            for (int js : new int[] {1, 40}) {
                x.latency(PLAIN, js);
                Check.same("i's " + cycles + ", j's " + js, cycles, x.depends(1, 0));
            }
        }
    }

    private static void writesWhatIsRead() {
        SlotFiller x = Blocks.of(Asm.lw(5, 0, 6), Asm.addu(6, 7, 8));
        for (int cycles : new int[] {1, 40}) {
            x.latency(LOAD, cycles);
            x.latency(PLAIN, 41 - cycles);
            Check.same("i's latency " + cycles, 1, x.depends(1, 0));
        }
    }

    private static void writesWhatIsWritten() {
        SlotFiller x = Blocks.of(Asm.lw(5, 0, 6), Asm.addu(5, 7, 8));
        int[][] due = {{2, 1, 2}, {40, 1, 40}, {40, 39, 2}, {40, 20, 21}, {20, 4, 17}};
        for (int[] row : due) {
            x.latency(LOAD, row[0]);
            x.latency(PLAIN, row[1]);
            Check.same(row[0] + " less " + row[1], row[2], x.depends(1, 0));
        }
    }

    private static void oneAtLeast() {
        SlotFiller x = Blocks.of(Asm.lw(5, 0, 6), Asm.addu(5, 7, 8));
        int[][] equalOrLess = {{1, 1}, {40, 40}, {1, 2}, {39, 40}, {1, 3}, {1, 40}};
        for (int[] row : equalOrLess) {
            x.latency(LOAD, row[0]);
            x.latency(PLAIN, row[1]);
            Check.same(row[0] + " less " + row[1], 1, x.depends(1, 0));
        }
    }

    private static void theGreatest() {
        Check.same("read 2, memory 1", 2, Blocks.lastOnFirst(Asm.lw(5, 0, 6), Asm.sw(5, 0, 6)));
        Check.same("written 17, read by i 1", 17,
                Blocks.lastOnFirst(Asm.div(5, 6), Asm.mul(5, 7, 8)));
        SlotFiller x = Blocks.of(Asm.div(5, 6), Asm.mul(5, 7, 8));
        x.latency(BY, 1);
        x.latency(TIMES, 40);
        Check.same("written 1, read by i 1", 1, x.depends(1, 0));
        SlotFiller y = Blocks.of(Asm.lw(5, 0, 6), Asm.addu(5, 5, 7));
        y.latency(LOAD, 9);
        y.latency(PLAIN, 8);
        Check.same("read 9, written 2", 9, y.depends(1, 0));
        SlotFiller z = Blocks.of(Asm.addu(5, 6, 7), Asm.addu(6, 5, 7));
        z.latency(PLAIN, 7);
        Check.same("read 7, read by i 1", 7, z.depends(1, 0));
        Check.same("read 20 of PRODUCTS, written 17", 20,
                Blocks.lastOnFirst(Asm.div(5, 6), Asm.madd(7, 8)));
        Check.same("read 4 of d, written 1", 4,
                Blocks.lastOnFirst(Asm.mul(5, 6, 7), Asm.mul(5, 5, 7)));
    }

    private static void oneOfBothABarrier() {
        for (int barrier : new int[] {Asm.sync(), Asm.syscall(), Asm.special(0x34, 0, 0, 0)}) {
            for (int other : APART) {
                barrier("then a barrier", other, barrier);
                barrier("behind a barrier", barrier, other);
            }
            barrier("a store, then a barrier", Asm.sw(5, 0, 6), barrier);
            barrier("two barriers", barrier, Asm.sync());
            barrier("a branch behind one", barrier, Asm.j());
        }
    }

    private static void barrier(String what, int first, int second) {
        SlotFiller x = Blocks.of(first, second);
        Check.same(what, 1, x.depends(1, 0));
        for (int of = 0; of <= 6; of++) {
            x.latency(of, 40);
        }
        Check.same(what + ", whatever the latencies", 1, x.depends(1, 0));
        Check.same(what + ", over others", 1,
                Blocks.lastOnFirst(first, Asm.NOP, Asm.NOP, second));
    }

    private static void conditionsAreOneThing() {
        for (int one = 0; one < 8; one++) {
            int compare = Asm.fraction(0x32, Asm.S, one << 2, 1, 2);
            for (int other = 0; other < 8; other++) {
                Check.same("C " + one + ", BC1T " + other, 3,
                        Blocks.lastOnFirst(compare, Asm.bc1t(false) | other << 18));
                Check.same("C " + one + ", MOVF " + other, 3,
                        Blocks.lastOnFirst(compare, Asm.special(0x01, 5, other << 2, 6)));
                Check.same("MOVT.S " + other + ", C " + one, 1, Blocks.lastOnFirst(
                        Asm.fraction(0x11, Asm.S, 3, 4, other << 2 | 1), compare));
                Check.same("C " + one + ", C " + other, 3, Blocks.lastOnFirst(
                        compare, Asm.fraction(0x3c, Asm.D, other << 2, 4, 6)));
            }
        }
    }

    private static void productsAreOneThing() {
        int mthi = Asm.special(0x11, 5, 0, 0);
        int mfhi = Asm.special(0x10, 0, 0, 6);
        Check.same("MTHI, MFLO", 1, Blocks.lastOnFirst(mthi, Asm.mflo(6)));
        Check.same("MTLO, MFHI", 1, Blocks.lastOnFirst(Asm.mtlo(5), mfhi));
        Check.same("MTHI, MTLO", 1, Blocks.lastOnFirst(mthi, Asm.mtlo(5)));
        Check.same("MFHI, MTLO", 1, Blocks.lastOnFirst(mfhi, Asm.mtlo(5)));
        Check.same("MFHI, MFLO", NONE, Blocks.lastOnFirst(mfhi, Asm.mflo(7)));
        Check.same("MULT, MTHI", 4, Blocks.lastOnFirst(Asm.mult(7, 8), mthi));
        SlotFiller x = Blocks.of(mthi, Asm.mflo(6));
        x.latency(PLAIN, 40);
        Check.same("MTHI's latency", 40, x.depends(1, 0));
        SlotFiller y = Blocks.of(Asm.mult(7, 8), mthi);
        y.latency(PLAIN, 40);
        Check.same("MTHI keeps a half, so that it reads", 4, y.depends(1, 0));
    }

    private static void noneWhenNoneHolds() {
        SlotFiller x = Blocks.of(APART);
        for (int of = 0; of <= 6; of++) {
            x.latency(of, 40);
        }
        for (int j = 0; j < APART.length; j++) {
            for (int i = 0; i < APART.length; i++) {
                Check.same("depends(" + j + ", " + i + ")", NONE, x.depends(j, i));
            }
        }
        Check.same("both read the same", NONE,
                Blocks.lastOnFirst(Asm.addu(5, 6, 7), Asm.addu(8, 6, 7)));
        Check.same("a register and a fraction of one number", NONE,
                Blocks.lastOnFirst(Asm.lw(5, 0, 6), Asm.lwc1(5, 0, 7)));
    }

    private static void overOthersBetween() {
        SlotFiller x = new SlotFiller();
        x.add(Asm.lw(5, 0, 6));
        for (int k = 0; k < 38; k++) {
            x.add(Asm.lui(5, k));
        }
        x.add(Asm.addu(7, 5, 5));
        Check.same("also when others write it between: the last on the first", 2,
                x.depends(39, 0));
        Check.same("the last on the one before it", 1, x.depends(39, 38));
    }

    private static void byTheLatenciesOfNow() {
        SlotFiller x = Blocks.of(Asm.lw(5, 0, 6), Asm.addu(7, 5, 8));
        Check.same("at first", 2, x.depends(1, 0));
        x.latency(LOAD, 5);
        Check.same("told behind add()", 5, x.depends(1, 0));
        x.schedule(true, true);
        x.latency(LOAD, 6);
        Check.same("told behind schedule()", 6, x.depends(1, 0));
    }

    private static void noSuchJ() {
        SlotFiller x = Blocks.of(Asm.lw(5, 0, 6), Asm.addu(7, 5, 8), Asm.NOP);
        for (int j : new int[] {-1, 3, 4, 39, 40, 41, Integer.MIN_VALUE, Integer.MAX_VALUE}) {
            for (int i = 0; i < 3; i++) {
                int which = i;
                Check.refused("depends(" + j + ", " + i + ")", IndexOutOfBoundsException.class,
                        () -> x.depends(j, which));
            }
        }
    }

    private static void noSuchI() {
        SlotFiller x = Blocks.of(Asm.lw(5, 0, 6), Asm.addu(7, 5, 8), Asm.NOP);
        for (int i : new int[] {-1, 3, 4, 39, 40, 41, Integer.MIN_VALUE, Integer.MAX_VALUE}) {
            for (int j = 0; j < 3; j++) {
                int which = j;
                Check.refused("depends(" + j + ", " + i + ")", IndexOutOfBoundsException.class,
                        () -> x.depends(which, i));
            }
        }
    }

    private static void neither() {
        SlotFiller x = Blocks.ofMany(40, Asm.NOP);
        Check.same("the last on the first", NONE, x.depends(39, 0));
        Check.refused("depends(40, 40)", IndexOutOfBoundsException.class,
                () -> x.depends(40, 40));
        Check.refused("depends(40, 39)", IndexOutOfBoundsException.class,
                () -> x.depends(40, 39));
        Check.refused("depends(39, 40)", IndexOutOfBoundsException.class,
                () -> x.depends(39, 40));
        Check.refused("depends(-1, -1)", IndexOutOfBoundsException.class,
                () -> x.depends(-1, -1));
        Check.refused("depends(MAX, MIN)", IndexOutOfBoundsException.class,
                () -> x.depends(Integer.MAX_VALUE, Integer.MIN_VALUE));
    }

    private static void noneInABlockOfNone() {
        SlotFiller x = new SlotFiller();
        Check.refused("depends(0, 0)", IndexOutOfBoundsException.class, () -> x.depends(0, 0));
        x.schedule(true, true);
        Check.refused("also behind schedule()", IndexOutOfBoundsException.class,
                () -> x.depends(0, 0));
        x.add(Asm.NOP);
        Check.same("one on itself", NONE, x.depends(0, 0));
    }

    private static void behindScheduleAndAdd() {
        SlotFiller x = Blocks.of(Asm.lui(9, 1), Asm.lw(5, 0, 6), Asm.addu(7, 5, 8), Asm.j());
        x.schedule(true, true);
        Check.same("indices are the block's, not those of what came out", 2, x.depends(2, 1));
        Check.same("the branch's is the last one", NONE, x.depends(3, 2));
        Check.refused("the slot's has none", IndexOutOfBoundsException.class,
                () -> x.depends(4, 0));
        Check.adds(x, Asm.div(5, 6), Asm.mflo(7));
        Check.same("of the new block", 20, x.depends(1, 0));
        Check.refused("none of the old one", IndexOutOfBoundsException.class,
                () -> x.depends(2, 1));
    }
}
