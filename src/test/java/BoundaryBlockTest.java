/** BLOCK, promises 1 and 3, and what is said of exceptions: each boundary case by itself. */
final class BoundaryBlockTest {
    private static final int[] BRANCHES = {Asm.beq(5, 6), Asm.immediate(0x05, 5, 6, 4),
        Asm.immediate(0x06, 5, 0, 4), Asm.immediate(0x07, 5, 0, 4), Asm.immediate(1, 5, 0, 4),
        Asm.immediate(1, 5, 1, 4), Asm.bc1t(false), Asm.bc1t(false) & ~(1 << 16), Asm.beql(5, 6),
        Asm.immediate(0x15, 5, 6, 4), Asm.immediate(0x16, 5, 0, 4), Asm.immediate(0x17, 5, 0, 4),
        Asm.immediate(1, 5, 2, 4), Asm.immediate(1, 5, 3, 4), Asm.bc1t(true),
        Asm.bc1t(true) & ~(1 << 16), Asm.j(), Asm.jal(), Asm.jr(5), Asm.jalr(31, 5),
        Asm.immediate(1, 5, 0x10, 4), Asm.immediate(1, 5, 0x11, 4)};
    private static final int[] BARRIERS = {Asm.special(0x20, 5, 6, 7), Asm.immediate(8, 5, 6, 4),
        Asm.special(0x22, 5, 6, 7), Asm.immediate(0x30, 5, 6, 4), Asm.immediate(0x38, 5, 6, 4),
        Asm.sync(), Asm.syscall(), 0x0d, Asm.special(0x30, 5, 6, 0), Asm.special(0x36, 5, 6, 0),
        Asm.immediate(1, 5, 8, 4), Asm.immediate(1, 5, 0x0e, 4)};
    private static final int ODD_DOUBLE = Asm.ldc1(1, 0, 5);

    private BoundaryBlockTest() {
    }

    public static void main(String[] args) {
        Check.sentence("No block, nothing came out", BoundaryBlockTest::newObject);
        Check.sentence("A BLOCK has at most 40 instructions; IllegalStateException: there are 40",
                BoundaryBlockTest::fortyAtMost);
        Check.sentence("A BLOCK has at most 40 instructions; a BRANCH can only be its last one",
                BoundaryBlockTest::branchAsTheFortieth);
        Check.sentence("IllegalStateException: there are 40",
                BoundaryBlockTest::branchAsTheFortyFirst);
        Check.sentence("IllegalStateException: ... or the last one is a BRANCH",
                BoundaryBlockTest::branchOnlyAsTheLastOne);
        Check.sentence("a BRANCH can only be its last one", BoundaryBlockTest::branchAsTheFirstOne);
        Check.sentence("a BRANCH can only be its last one", BoundaryBlockTest::barriersEndNoBlock);
        Check.sentence("the first one behind schedule() begins a new one",
                BoundaryBlockTest::firstBehindScheduleBeginsANewOne);
        Check.sentence("the first one behind schedule() begins a new one",
                BoundaryBlockTest::firstBehindScheduleOfNone);
        Check.sentence("the first one behind schedule() begins a new one",
                BoundaryBlockTest::firstBehindSchedulesInARow);
        Check.sentence("the first one behind schedule() begins a new one",
                BoundaryBlockTest::firstBehindAFullOne);
        Check.sentence("what came out stays", BoundaryBlockTest::whatCameOutStays);
        Check.sentence("a call that throws changes nothing",
                BoundaryBlockTest::refusedBehindSchedule);
        Check.sentence("Of several exceptions the first one told is thrown",
                BoundaryBlockTest::noSuchComesFirst);
        Check.sentence("a call that throws changes nothing", BoundaryBlockTest::changesNothing);
        Check.sentence("a call that throws changes nothing",
                BoundaryBlockTest::changesNothingWhenFull);
        Check.end();
    }

    private static void newObject() {
        SlotFiller x = new SlotFiller();
        for (int what = 0; what <= 3; what++) {
            Check.same("count(" + what + ")", 0, x.count(what));
        }
        Check.same("cycles()", 0, x.cycles());
        Check.refused("word(0)", IndexOutOfBoundsException.class, () -> x.word(0));
        Check.refused("from(0)", IndexOutOfBoundsException.class, () -> x.from(0));
        Check.refused("height(0)", IndexOutOfBoundsException.class, () -> x.height(0));
        Check.refused("depends(0, 0)", IndexOutOfBoundsException.class, () -> x.depends(0, 0));
        Check.same("the first add", 0, x.add(Asm.NOP));
        Check.same("nothing came out of it yet", 0, x.count(1));
    }

    private static void fortyAtMost() {
        SlotFiller x = Blocks.ofMany(39, Asm.NOP);
        Check.same("the fortieth", 1, x.add(Asm.lw(5, 0, 6)));
        Check.same("forty", 40, x.count(0));
        Check.refused("the forty-first", IllegalStateException.class, () -> x.add(Asm.NOP));
        Check.refused("once more", IllegalStateException.class, () -> x.add(Asm.sync()));
        Check.same("still forty", 40, x.count(0));
        Check.same("the fortieth has a height", 2, x.height(39));
        Check.refused("height(40)", IndexOutOfBoundsException.class, () -> x.height(40));
        Check.same("forty come out", 40, x.schedule(true, true));
    }

    private static void branchAsTheFortieth() {
        SlotFiller x = Blocks.ofMany(39, Asm.NOP);
        Check.same("as the fortieth", 7, x.add(Asm.j()));
        Check.refused("behind it", IllegalStateException.class, () -> x.add(Asm.NOP));
        Check.same("with a NOP that comes of itself", 41, x.schedule(true, false));
        Check.same("the last word", SlotFiller.NONE, x.from(40));
    }

    private static void branchAsTheFortyFirst() {
        SlotFiller x = Blocks.ofMany(40, Asm.NOP);
        for (int branch : BRANCHES) {
            Check.refused("as the forty-first", IllegalStateException.class, () -> x.add(branch));
        }
        Check.same("still forty", 40, x.count(0));
        Check.same("no branch, no slot", 40, x.schedule(true, true));
    }

    private static void branchOnlyAsTheLastOne() {
        for (int branch : BRANCHES) {
            SlotFiller x = Blocks.of(Asm.addu(5, 6, 7), branch);
            String name = "behind " + Integer.toHexString(branch);
            Check.refusedUnchanged(name, IllegalStateException.class, x, () -> x.add(Asm.NOP));
            Check.refusedUnchanged(name + " it again", IllegalStateException.class, x,
                    () -> x.add(branch));
            Check.refused(name + " a barrier", IllegalStateException.class,
                    () -> x.add(Asm.sync()));
            Check.same("still two", 2, x.count(0));
        }
    }

    private static void branchAsTheFirstOne() {
        for (int branch : BRANCHES) {
            SlotFiller x = Blocks.of(branch);
            Check.refused("behind it", IllegalStateException.class, () -> x.add(Asm.NOP));
            Check.same("it and a NOP", 2, x.schedule(true, true));
            Check.same("it", branch, x.word(0));
        }
    }

    private static void barriersEndNoBlock() {
        for (int barrier : BARRIERS) {
            SlotFiller x = Blocks.of(Asm.NOP);
            Check.same("a barrier", 8, x.add(barrier));
            Check.same("another one behind it", 8, x.add(barrier));
            Check.same("and a branch", 7, x.add(Asm.j()));
            Check.same("four", 4, x.count(0));
        }
    }

    private static void firstBehindScheduleBeginsANewOne() {
        for (int branch : BRANCHES) {
            SlotFiller x = Blocks.of(Asm.lw(5, 0, 6), Asm.NOP, branch);
            x.schedule(true, true);
            Check.same("the old one stays till then", 3, x.count(0));
            Check.same("behind a branch, too", 1, x.add(Asm.lw(7, 0, 6)));
            Check.same("a new one", 1, x.count(0));
            Check.refused("the old ones are gone", IndexOutOfBoundsException.class,
                    () -> x.depends(1, 0));
            Check.same("the second one", 0, x.add(Asm.addu(8, 7, 7)));
            Check.same("begins none", 2, x.count(0));
            Check.same("and depends on the new first one", 2, x.depends(1, 0));
            Check.same("a branch", 7, x.add(branch));
            Check.refused("ends the new one", IllegalStateException.class, () -> x.add(Asm.NOP));
        }
    }

    private static void firstBehindScheduleOfNone() {
        SlotFiller x = new SlotFiller();
        x.schedule(true, true);
        Check.adds(x, Asm.lw(5, 0, 6), Asm.addu(7, 5, 5));
        Check.same("both are of one", 2, x.count(0));
        Check.same("and depend", 2, x.depends(1, 0));
    }

    private static void firstBehindSchedulesInARow() {
        SlotFiller x = Blocks.of(Asm.lw(5, 0, 6), Asm.addu(7, 5, 5), Asm.j());
        x.schedule(true, true);
        x.schedule(false, false);
        x.add(Asm.NOP);
        Check.same("one block begun, not two", 1, x.count(0));
        x.add(Asm.NOP);
        Check.same("and gone on with", 2, x.count(0));
    }

    private static void firstBehindAFullOne() {
        SlotFiller x = Blocks.ofMany(40, Asm.lw(5, 0, 5));
        x.schedule(true, true);
        for (int i = 0; i < 40; i++) {
            Check.same("add " + i, 0, x.add(Asm.lui(8, i)));
            Check.same("count", i + 1, x.count(0));
        }
        Check.refused("full again", IllegalStateException.class, () -> x.add(Asm.NOP));
        Check.same("nothing of the old one in it", 1, x.depends(39, 38));
        x.schedule(true, true);
        Check.same("its word", Asm.lui(8, 39), x.word(39));
    }

    private static void whatCameOutStays() {
        SlotFiller x = Blocks.of(Asm.lui(5, 1), Asm.lw(6, 0, 7), Asm.addu(8, 6, 6), Asm.j());
        x.schedule(true, false);
        Check.adds(x, Asm.div(5, 6), Asm.mflo(7));
        int[] words = {Asm.lw(6, 0, 7), Asm.lui(5, 1), Asm.addu(8, 6, 6), Asm.j(), Asm.NOP};
        int[] froms = {1, 0, 2, 3, SlotFiller.NONE};
        for (int k = 0; k < words.length; k++) {
            Check.same("word(" + k + ")", words[k], x.word(k));
            Check.same("from(" + k + ")", froms[k], x.from(k));
        }
        Check.same("cycles()", 5, x.cycles());
        Check.same("count(1)", 5, x.count(1));
        Check.same("count(2)", 1, x.count(2));
        Check.same("count(3)", 0, x.count(3));
    }

    private static void refusedBehindSchedule() {
        SlotFiller x = Blocks.of(Asm.lw(5, 0, 6), Asm.addu(7, 5, 5), Asm.j());
        x.schedule(true, true);
        Check.refusedUnchanged("add(-1)", IllegalArgumentException.class, x, () -> x.add(-1));
        Check.refusedUnchanged("an odd double", IllegalArgumentException.class, x,
                () -> x.add(ODD_DOUBLE));
        Check.same("the same block again", 4, x.schedule(true, false));
        Check.refused("add(-1)", IllegalArgumentException.class, () -> x.add(-1));
        Check.same("then the first one that is one", 0, x.add(Asm.NOP));
        Check.same("begins a new block", 1, x.count(0));
    }

    private static void noSuchComesFirst() {
        SlotFiller full = Blocks.ofMany(40, Asm.NOP);
        SlotFiller ended = Blocks.of(Asm.j());
        for (int word : new int[] {-1, Integer.MAX_VALUE, ODD_DOUBLE, 0x05, 0x35}) {
            Check.refused("no such, and there are 40", IllegalArgumentException.class,
                    () -> full.add(word));
            Check.refused("no such, and behind a BRANCH", IllegalArgumentException.class,
                    () -> ended.add(word));
        }
        Check.same("still forty", 40, full.count(0));
        Check.same("still one", 1, ended.count(0));
    }

    private static void changesNothing() {
        SlotFiller x = Blocks.of(Asm.lw(5, 0, 6), Asm.addu(7, 5, 5), Asm.j());
        x.schedule(true, true);
        Check.adds(x, Asm.div(5, 6), Asm.mflo(7));
        Check.refusedUnchanged("add", IllegalArgumentException.class, x, () -> x.add(-1));
        Check.refusedUnchanged("latency(7, 3)", IllegalArgumentException.class, x,
                () -> x.latency(7, 3));
        Check.refusedUnchanged("latency(4, 41)", IllegalArgumentException.class, x,
                () -> x.latency(4, 41));
        Check.refusedUnchanged("word(3)", IndexOutOfBoundsException.class, x, () -> x.word(3));
        Check.refusedUnchanged("from(-1)", IndexOutOfBoundsException.class, x, () -> x.from(-1));
        Check.refusedUnchanged("depends(2, 0)", IndexOutOfBoundsException.class, x,
                () -> x.depends(2, 0));
        Check.refusedUnchanged("height(2)", IndexOutOfBoundsException.class, x,
                () -> x.height(2));
        Check.same("the block goes on", 0, x.add(Asm.NOP));
        Check.same("with a third one", 3, x.count(0));
    }

    private static void changesNothingWhenFull() {
        SlotFiller x = Blocks.ofMany(40, Asm.lw(5, 0, 5));
        Check.refusedUnchanged("the forty-first", IllegalStateException.class, x,
                () -> x.add(Asm.j()));
        Check.same("the block is not through by it", 40, x.count(0));
        Check.refused("so that none can be added", IllegalStateException.class,
                () -> x.add(Asm.NOP));
        Check.same("all forty", 40, x.schedule(false, true));
    }
}
