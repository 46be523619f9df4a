/** Everything that an object tells, as one text: the same text twice, and nothing was changed. */
final class Seen {
    private Seen() {
    }

    /** Less than 200 calls, so that an object of 512 bears it twice. */
    static String of(SlotFiller filler) {
        StringBuilder text = new StringBuilder();
        int size = filler.count(0);
        int out = filler.count(1);
        for (int what = 0; what <= 3; what++) {
            text.append(filler.count(what)).append(' ');
        }
        text.append("cycles ").append(filler.cycles()).append(" out");
        for (int k = 0; k < out; k++) {
            text.append(' ').append(Integer.toHexString(filler.word(k)));
            text.append('/').append(filler.from(k));
        }
        text.append(" heights");
        for (int i = 0; i < size; i++) {
            text.append(' ').append(filler.height(i));
        }
        text.append(" depends");
        for (int i = 1; i < size; i++) {
            text.append(' ').append(filler.depends(i, i - 1));
        }
        text.append(" latencies");
        for (int of = 0; of <= 6; of++) {
            int was = filler.latency(of, 1);
            filler.latency(of, was);
            text.append(' ').append(was);
        }
        return text.toString();
    }
}
