/** Promise 1: no block, nothing came out. */
final class NewObjectTest {
    private NewObjectTest() {
    }

    public static void main(String[] args) {
        SlotFiller x = new SlotFiller();
        for (int what = 0; what <= 3; what++) {
            Check.same("new: count(" + what + ")", 0, x.count(what));
        }
        Check.same("new: cycles()", 0, x.cycles());
        Check.refused("new: word(0)", IndexOutOfBoundsException.class, () -> x.word(0));
        Check.refused("new: from(0)", IndexOutOfBoundsException.class, () -> x.from(0));
        Check.refused("new: height(0)", IndexOutOfBoundsException.class, () -> x.height(0));
        Check.refused("new: depends(0, 0)", IndexOutOfBoundsException.class,
                () -> x.depends(0, 0));
        x.add(Asm.NOP);
        Check.same("one added: count(0)", 1, x.count(0));
        Check.same("one added: count(1)", 0, x.count(1));
        Check.refused("one added: word(0)", IndexOutOfBoundsException.class, () -> x.word(0));

        SlotFiller y = new SlotFiller();
        Check.same("another object has nothing of the first", 0, y.count(0));
        x.latency(1, 9);
        Check.same("another object has its own latencies", 2, y.latency(1, 2));
        Check.end();
    }
}
