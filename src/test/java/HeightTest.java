/** Promise 8: the heights, by the latencies of now. */
final class HeightTest {
    private HeightTest() {
    }

    public static void main(String[] args) {
        SlotFiller x = new SlotFiller();
        Check.adds(x, Asm.lw(2, 0, 4), Asm.mult(2, 3), Asm.lui(9, 1), Asm.mflo(5),
                Asm.addu(6, 9, 5), Asm.jr(6));
        int[] due = {9, 7, 3, 3, 2, 1};
        for (int i = 0; i < due.length; i++) {
            Check.same("height(" + i + ")", due[i], x.height(i));
        }
        x.latency(3, 10);
        Check.same("height(0) by the latencies of now", 15, x.height(0));
        Check.same("height(2) has nothing of it", 3, x.height(2));
        int[] outside = {-1, 6, 40, Integer.MIN_VALUE, Integer.MAX_VALUE};
        for (int i : outside) {
            Check.refused("height(" + i + ")", IndexOutOfBoundsException.class,
                    () -> x.height(i));
        }
        ofThoseWithoutFollowers();
        doesNotMoveWhatCameOut();
        grows();
        Check.end();
    }

    private static void ofThoseWithoutFollowers() {
        int[] words = {Asm.NOP, Asm.lw(2, 0, 4), Asm.sw(2, 0, 4), Asm.mult(2, 3), Asm.div(2, 3),
                Asm.fraction(0, Asm.S, 1, 2, 3), Asm.fraction(3, Asm.S, 1, 2, 3), Asm.j(),
                Asm.sync()};
        int[] due = {1, 2, 1, 4, 20, 3, 15, 1, 1};
        for (int k = 0; k < words.length; k++) {
            SlotFiller x = new SlotFiller();
            x.add(words[k]);
            Check.same("alone, of class " + k, due[k], x.height(0));
        }
        SlotFiller x = new SlotFiller();
        Check.adds(x, Asm.div(2, 3), Asm.sync());
        Check.same("less than its latency, by a barrier", 2, x.height(0));
    }

    private static void doesNotMoveWhatCameOut() {
        SlotFiller x = new SlotFiller();
        Check.adds(x, Asm.lui(2, 1), Asm.lw(3, 0, 4), Asm.sw(3, 8, 4));
        x.schedule(true, true);
        x.latency(0, 40);
        Check.same("height by the latencies of now", 40, x.height(0));
        Check.cameFrom("as then", x, 1, 0, 2);
        x.schedule(true, true);
        Check.cameFrom("as now", x, 0, 1, 2);
    }

    private static void grows() {
        SlotFiller x = new SlotFiller();
        for (int i = 0; i < 40; i++) {
            x.add(Asm.lw(2, 0, 2));
        }
        x.latency(1, 40);
        Check.same("forty times forty", 1600, x.height(0));
        Check.same("the last one", 40, x.height(39));
        Check.same("all forty", 40, x.schedule(true, true));
        Check.same("the last one begins in 39 times 40", 1561, x.cycles());
    }
}
