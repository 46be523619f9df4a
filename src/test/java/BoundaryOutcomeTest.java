/** Promises 4, 5, 6 and 10: each boundary case by itself. */
final class BoundaryOutcomeTest {
    private static final int NONE = SlotFiller.NONE;
    private static final boolean[] BOTH = {false, true};

    private BoundaryOutcomeTest() {
    }

    public static void main(String[] args) {
        Check.sentence("The block is through (also without any instruction)",
                BoundaryOutcomeTest::withoutAnyInstruction);
        Check.sentence("the same one again, if none was added since",
                BoundaryOutcomeTest::theSameOneAgain);
        Check.sentence("the same one again, if none was added since",
                BoundaryOutcomeTest::theSameOneAgainWithOtherLatencies);
        Check.sentence("the same one again, if none was added since",
                BoundaryOutcomeTest::theSameOneAgainBehindARefusedAdd);
        Check.sentence("the same one again, if none was added since",
                BoundaryOutcomeTest::notAgainIfOneWasAdded);
        Check.sentence("IndexOutOfBoundsException: there is none (nothing came out)",
                BoundaryOutcomeTest::noWordBeforeSchedule);
        Check.sentence("Word k of what came out. IndexOutOfBoundsException: there is none",
                BoundaryOutcomeTest::noSuchWord);
        Check.sentence("Which instruction ... it was. IndexOutOfBoundsException: likewise",
                BoundaryOutcomeTest::noSuchFrom);
        Check.sentence("IndexOutOfBoundsException: there is none (fewer than before)",
                BoundaryOutcomeTest::fewerThanBefore);
        Check.sentence("Which instruction of the block it was",
                BoundaryOutcomeTest::fromIsOfTheBlockOfThen);
        Check.sentence("NONE for a NOP that came of itself",
                BoundaryOutcomeTest::noneForANopThatCameOfItself);
        Check.sentence("Instructions of the block (0)",
                BoundaryOutcomeTest::instructionsOfTheBlock);
        Check.sentence("words that came out (1) ... NOPs (2) ... filled (3)",
                BoundaryOutcomeTest::wordsThatCameOut);
        Check.sentence("NONE for another what", BoundaryOutcomeTest::anotherWhat);
        Check.end();
    }

    private static void withoutAnyInstruction() {
        for (boolean ordering : BOTH) {
            for (boolean filling : BOTH) {
                SlotFiller x = new SlotFiller();
                Check.same("none", 0, x.schedule(ordering, filling));
                Check.same("none again", 0, x.schedule(filling, ordering));
                for (int what = 0; what <= 3; what++) {
                    Check.same("count(" + what + ")", 0, x.count(what));
                }
                Check.refused("word(0)", IndexOutOfBoundsException.class, () -> x.word(0));
                Check.refused("from(0)", IndexOutOfBoundsException.class, () -> x.from(0));
            }
        }
    }

    private static void theSameOneAgain() {
        SlotFiller x = Blocks.of(Asm.lui(5, 1), Asm.lw(6, 0, 20), Asm.addu(7, 6, 6), Asm.j());
        for (int times = 0; times < 3; times++) {
            Check.same("ordered, filled", 4, x.schedule(true, true));
            Check.cameFrom("ordered, filled", x, 1, 0, 3, 2);
            Check.same("filled", 4, x.schedule(false, true));
            Check.cameFrom("filled", x, 0, 1, 3, 2);
            Check.same("ordered", 5, x.schedule(true, false));
            Check.cameFrom("ordered", x, 1, 0, 2, 3, NONE);
            Check.same("neither", 5, x.schedule(false, false));
            Check.cameFrom("neither", x, 0, 1, 2, 3, NONE);
            Check.same("the block stays", 4, x.count(0));
        }
    }

    private static void theSameOneAgainWithOtherLatencies() {
        SlotFiller x = Blocks.of(Asm.lui(5, 1), Asm.lw(6, 0, 20), Asm.j());
        x.schedule(true, false);
        Check.cameFrom("at first", x, 1, 0, 2, NONE);
        x.latency(0, 3);
        Check.cameFrom("what came out stays", x, 1, 0, 2, NONE);
        x.schedule(true, false);
        Check.cameFrom("by the latencies of now", x, 0, 1, 2, NONE);
    }

    private static void theSameOneAgainBehindARefusedAdd() {
        SlotFiller x = Blocks.of(Asm.lw(6, 0, 20), Asm.addu(7, 6, 6), Asm.j());
        x.schedule(true, true);
        Check.refused("refused", IllegalArgumentException.class, () -> x.add(-1));
        Check.same("none was added", 4, x.schedule(true, false));
        Check.cameFrom("the same one", x, 0, 1, 2, NONE);
    }

    private static void notAgainIfOneWasAdded() {
        SlotFiller x = Blocks.of(Asm.lw(6, 0, 20), Asm.addu(7, 6, 6), Asm.j());
        x.schedule(true, true);
        x.add(Asm.lui(5, 1));
        Check.same("the new one alone", 1, x.schedule(true, true));
        Check.same("its word", Asm.lui(5, 1), x.word(0));
        Check.same("again", 1, x.schedule(false, false));
    }

    private static void noWordBeforeSchedule() {
        SlotFiller x = Blocks.of(Asm.lui(5, 1), Asm.j());
        for (int k = -1; k <= 2; k++) {
            int which = k;
            Check.refused("word(" + k + ")", IndexOutOfBoundsException.class,
                    () -> x.word(which));
            Check.refused("from(" + k + ")", IndexOutOfBoundsException.class,
                    () -> x.from(which));
        }
    }

    private static void noSuchWord() {
        for (int size : new int[] {1, 2, 39, 40}) {
            SlotFiller x = Blocks.ofMany(size, Asm.lui(5, size));
            x.schedule(true, true);
            Check.same("the first one", Asm.lui(5, size), x.word(0));
            Check.same("the last one", Asm.lui(5, size), x.word(size - 1));
            for (int k : outside(size)) {
                Check.refused("word(" + k + ") of " + size, IndexOutOfBoundsException.class,
                        () -> x.word(k));
            }
        }
    }

    private static void noSuchFrom() {
        for (int size : new int[] {1, 2, 39, 40}) {
            SlotFiller x = Blocks.ofMany(size, Asm.lui(5, size));
            x.schedule(true, true);
            Check.same("the first one", 0, x.from(0));
            Check.same("the last one", size - 1, x.from(size - 1));
            for (int k : outside(size)) {
                Check.refused("from(" + k + ") of " + size, IndexOutOfBoundsException.class,
                        () -> x.from(k));
            }
        }
    }

    private static int[] outside(int size) {
        return new int[] {-1, size, size + 1, 41, 42, Integer.MIN_VALUE, Integer.MAX_VALUE};
    }

    private static void fewerThanBefore() {
        SlotFiller x = Blocks.ofMany(39, Asm.lui(5, 1));
        x.add(Asm.j());
        x.schedule(true, false);
        Check.same("of forty-one", NONE, x.from(40));
        x.schedule(true, true);
        Check.refused("of forty", IndexOutOfBoundsException.class, () -> x.from(40));
        x.add(Asm.lw(6, 0, 7));
        Check.same("what came out stays", Asm.j(), x.word(38));
        x.schedule(true, true);
        Check.same("of one", Asm.lw(6, 0, 7), x.word(0));
        Check.refused("word(1)", IndexOutOfBoundsException.class, () -> x.word(1));
        Check.refused("from(1)", IndexOutOfBoundsException.class, () -> x.from(1));
        Check.refused("word(38)", IndexOutOfBoundsException.class, () -> x.word(38));
    }

    private static void fromIsOfTheBlockOfThen() {
        SlotFiller x = Blocks.of(Asm.lui(5, 1), Asm.lw(6, 0, 20), Asm.div(7, 8));
        x.schedule(true, true);
        x.add(Asm.NOP);
        Check.cameFrom("behind add() too", x, 2, 1, 0);
        Check.same("its word too", Asm.div(7, 8), x.word(0));
    }

    private static void noneForANopThatCameOfItself() {
        SlotFiller x = Blocks.of(Asm.NOP, Asm.lui(5, 1), Asm.beq(5, 0));
        x.schedule(false, false);
        Check.cameFrom("one of the block, one of itself", x, 0, 1, 2, NONE);
        Check.same("the one's word", 0, x.word(0));
        Check.same("the other one's word", 0, x.word(3));
        Check.same("one came of itself", 1, x.count(2));
        x.schedule(false, true);
        Check.cameFrom("the block's in the slot", x, 1, 2, 0);
        Check.same("none came of itself", 0, x.count(2));
    }

    private static void instructionsOfTheBlock() {
        SlotFiller x = new SlotFiller();
        for (int i = 0; i < 40; i++) {
            Check.same("before add " + i, i, x.count(0));
            x.add(Asm.NOP);
        }
        Check.same("forty", 40, x.count(0));
        x.schedule(true, true);
        Check.same("behind schedule() the same", 40, x.count(0));
        x.add(Asm.NOP);
        Check.same("one of a new one", 1, x.count(0));
    }

    private static void wordsThatCameOut() {
        SlotFiller x = Blocks.of(Asm.lui(5, 1), Asm.j());
        counts("not through", x, 2, 0, 0, 0);
        x.schedule(true, false);
        counts("not filled", x, 2, 3, 1, 0);
        x.schedule(true, true);
        counts("filled", x, 2, 2, 0, 1);
        x.add(Asm.j());
        counts("a new one begun", x, 1, 2, 0, 1);
        x.schedule(true, true);
        counts("nothing to fill with", x, 1, 2, 1, 0);
        x.add(Asm.lui(5, 1));
        x.schedule(true, true);
        counts("no branch", x, 1, 1, 0, 0);
    }

    private static void counts(String what, SlotFiller x, int... due) {
        for (int k = 0; k < due.length; k++) {
            Check.same(what + ": count(" + k + ")", due[k], x.count(k));
        }
    }

    private static void anotherWhat() {
        SlotFiller x = new SlotFiller();
        SlotFiller y = Blocks.of(Asm.lui(5, 1), Asm.j());
        y.schedule(true, true);
        for (int what : new int[] {-1, 4, 5, 40, -4, Integer.MIN_VALUE, Integer.MAX_VALUE}) {
            Check.same("new: count(" + what + ")", NONE, x.count(what));
            Check.same("count(" + what + ")", NONE, y.count(what));
        }
    }
}
