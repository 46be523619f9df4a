/** LATENCIES and promise 2: each boundary case by itself. */
final class BoundaryLatencyTest {
    private static final int[] FIRST = {1, 2, 1, 4, 20, 3, 15};
    /** One of each class, none of which depends on another one in a block of its own. */
    private static final int[] ONE_OF_EACH = {Asm.lui(5, 1), Asm.lw(5, 0, 6), Asm.sw(5, 0, 6),
        Asm.mult(5, 6), Asm.div(5, 6), Asm.fraction(0, Asm.S, 1, 2, 3),
        Asm.fraction(3, Asm.S, 1, 2, 3), Asm.j(), Asm.sync()};

    private BoundaryLatencyTest() {
    }

    public static void main(String[] args) {
        Check.sentence("the classes 0 .. 6: 1, 2, 1, 4, 20, 3, 15 at first",
                BoundaryLatencyTest::atFirst);
        Check.sentence("of the others 1", BoundaryLatencyTest::ofTheOthersOne);
        Check.sentence("The latency of a class: what it was", BoundaryLatencyTest::whatItWas);
        Check.sentence("IllegalArgumentException: it is not of 0 .. 6",
                BoundaryLatencyTest::classesOutside);
        Check.sentence("it is not of 0 .. 6", BoundaryLatencyTest::classesAtTheEnds);
        Check.sentence("or cycles is not 1 .. 40", BoundaryLatencyTest::cyclesOutside);
        Check.sentence("or cycles is not 1 .. 40", BoundaryLatencyTest::cyclesAtTheEnds);
        Check.sentence("it is not of 0 .. 6, or cycles is not 1 .. 40",
                BoundaryLatencyTest::bothOutside);
        Check.sentence("a call that throws changes nothing",
                BoundaryLatencyTest::throwingChangesNothing);
        Check.sentence("1, 2, 1, 4, 20, 3, 15 at first", BoundaryLatencyTest::eachObjectHasItsOwn);
        Check.sentence("The latency of a class: what it was",
                BoundaryLatencyTest::staysThroughBlocks);
        Check.end();
    }

    private static void atFirst() {
        SlotFiller x = new SlotFiller();
        for (int of = 0; of <= 6; of++) {
            Check.same("of " + of, FIRST[of], Blocks.of(ONE_OF_EACH[of]).height(0));
            Check.same("told of " + of, FIRST[of], x.latency(of, FIRST[of]));
        }
    }

    private static void ofTheOthersOne() {
        for (int of = 7; of <= 8; of++) {
            SlotFiller x = Blocks.of(ONE_OF_EACH[of]);
            Check.same("of " + of, 1, x.height(0));
            for (int told = 0; told <= 6; told++) {
                x.latency(told, 40);
            }
            Check.same("whatever was told, of " + of, 1, x.height(0));
        }
        SlotFiller y = Blocks.of(Asm.lw(31, 0, 5), Asm.jal());
        y.latency(1, 40);
        Check.same("a BRANCH's: 40 less 1 and 1 more", 40, y.depends(1, 0));
    }

    private static void whatItWas() {
        SlotFiller x = new SlotFiller();
        for (int of = 0; of <= 6; of++) {
            Check.same("first", FIRST[of], x.latency(of, 11 + of));
            Check.same("then", 11 + of, x.latency(of, 11 + of));
            Check.same("the same told again", 11 + of, x.latency(of, 21 + of));
        }
        for (int of = 0; of <= 6; of++) {
            Check.same("each class has its own", 21 + of, x.latency(of, 1));
        }
    }

    private static void classesOutside() {
        SlotFiller x = new SlotFiller();
        for (int of : new int[] {-1, 7, 8, 9, 16, -7, Integer.MIN_VALUE, Integer.MAX_VALUE}) {
            for (int cycles : new int[] {1, 2, 40}) {
                Check.refused("latency(" + of + ", " + cycles + ")",
                        IllegalArgumentException.class, () -> x.latency(of, cycles));
            }
        }
    }

    private static void classesAtTheEnds() {
        SlotFiller x = Blocks.of(ONE_OF_EACH[0]);
        Check.same("latency(0, 9)", 1, x.latency(0, 9));
        Check.same("used", 9, x.height(0));
        SlotFiller y = Blocks.of(ONE_OF_EACH[6]);
        Check.same("latency(6, 9)", 15, y.latency(6, 9));
        Check.same("used", 9, y.height(0));
    }

    private static void cyclesOutside() {
        SlotFiller x = new SlotFiller();
        for (int cycles : new int[] {0, -1, 41, -40, Integer.MIN_VALUE, Integer.MAX_VALUE}) {
            for (int of = 0; of <= 6; of++) {
                int which = of;
                Check.refused("latency(" + of + ", " + cycles + ")",
                        IllegalArgumentException.class, () -> x.latency(which, cycles));
            }
        }
    }

    private static void cyclesAtTheEnds() {
        for (int of = 0; of <= 6; of++) {
            SlotFiller x = Blocks.of(ONE_OF_EACH[of]);
            for (int cycles : new int[] {1, 2, 39, 40}) {
                x.latency(of, cycles);
                Check.same("of " + of, cycles, x.height(0));
            }
            Check.same("the last one told", 40, x.latency(of, 1));
        }
    }

    private static void bothOutside() {
        SlotFiller x = new SlotFiller();
        Check.refused("latency(-1, 0)", IllegalArgumentException.class, () -> x.latency(-1, 0));
        Check.refused("latency(7, 41)", IllegalArgumentException.class, () -> x.latency(7, 41));
        Check.refused("latency(MAX, MIN)", IllegalArgumentException.class,
                () -> x.latency(Integer.MAX_VALUE, Integer.MIN_VALUE));
    }

    private static void throwingChangesNothing() {
        SlotFiller x = Blocks.of(Asm.lw(5, 0, 6), Asm.addu(7, 5, 5), Asm.j());
        x.schedule(true, true);
        Check.refusedUnchanged("latency(1, 0)", IllegalArgumentException.class, x,
                () -> x.latency(1, 0));
        Check.refusedUnchanged("latency(1, 41)", IllegalArgumentException.class, x,
                () -> x.latency(1, 41));
        Check.refusedUnchanged("latency(-1, 5)", IllegalArgumentException.class, x,
                () -> x.latency(-1, 5));
        Check.refusedUnchanged("latency(7, 5)", IllegalArgumentException.class, x,
                () -> x.latency(7, 5));
    }

    private static void eachObjectHasItsOwn() {
        SlotFiller x = new SlotFiller();
        for (int of = 0; of <= 6; of++) {
            x.latency(of, 33);
        }
        SlotFiller y = new SlotFiller();
        for (int of = 0; of <= 6; of++) {
            Check.same("another object's " + of, FIRST[of], y.latency(of, 1));
            Check.same("this object's " + of, 33, x.latency(of, 33));
        }
    }

    private static void staysThroughBlocks() {
        SlotFiller x = Blocks.of(Asm.lw(5, 0, 6));
        x.latency(1, 7);
        x.schedule(true, true);
        x.add(Asm.lw(5, 0, 6));
        Check.same("a new block has it", 7, x.height(0));
        Check.same("schedule() keeps it", 7, x.latency(1, 2));
    }
}
