import java.util.ArrayList;
import java.util.List;
import java.util.Random;

/**
 * Objects used for all their 512 calls, one block behind the other, refused calls among them:
 * nothing of an earlier block or call may show in a later one. The seed is written here.
 */
final class RandomCallsTest {
    private static final int OBJECTS = 120;
    private static final int MOST_CALLS = 512;

    private final Random random;
    private final SlotFiller x = new SlotFiller();
    private final Model model = new Model();
    private boolean through = false;
    private List<Integer> froms = new ArrayList<>();
    private List<Integer> words = new ArrayList<>();
    private int cycles = 0;
    private boolean filled = false;

    private RandomCallsTest(Random random) {
        this.random = random;
    }

    public static void main(String[] args) {
        Random random = new Random(512);
        for (int object = 0; object < OBJECTS; object++) {
            RandomCallsTest test = new RandomCallsTest(random);
            Check.sentence("object " + object, test::allCalls);
        }
        Check.end();
    }

    private void allCalls() {
        for (int call = 0; call < MOST_CALLS; call++) {
            call();
        }
    }

    private void call() {
        int which = random.nextInt(20);
        // Left alone, a closed block would take most of the calls.
        if (isClosed() && random.nextInt(4) == 0) {
            schedule();
        } else if (which < 10) {
            add();
        } else if (which < 11) {
            schedule();
        } else if (which < 12) {
            latency();
        } else if (which < 14) {
            outcome();
        } else if (which < 16) {
            depends();
        } else if (which < 18) {
            height();
        } else if (which < 19) {
            Check.same("cycles()", cycles, x.cycles());
        } else {
            count();
        }
    }

    private boolean isClosed() {
        return !through && (model.words.size() == 40 || model.hasBranch());
    }

    private int word() {
        Manual.Entry entry = Manual.ENTRIES.get(random.nextInt(Manual.ENTRIES.size()));
        // Branches end a block, so that most would be short.
        boolean seldom = entry.kind >= 7 && random.nextInt(8) != 0;
        int bits = seldom ? Asm.addu(0, 0, 0) : entry.bits;
        int mask = seldom ? ~(0x03ffffc0) : entry.mask;
        int fields = random.nextInt(6) << 21 | random.nextInt(6) << 16
                | random.nextInt(6) << 11 | random.nextInt(6) << 6 | random.nextInt(64);
        return bits | fields & ~mask;
    }

    private void add() {
        int word = random.nextInt(30) == 0 ? random.nextInt() : word();
        Manual.Entry entry = Manual.find(word);
        String name = "add(" + Integer.toHexString(word) + ")";
        if (entry == null) {
            Check.refused(name, IllegalArgumentException.class, () -> x.add(word));
        } else if (isClosed()) {
            Check.refused(name, IllegalStateException.class, () -> x.add(word));
        } else {
            Check.same(name, entry.kind, x.add(word));
            if (through) {
                model.words.clear();
                through = false;
            }
            model.words.add(word);
            model.forget();
        }
    }

    private void schedule() {
        boolean ordering = random.nextInt(4) != 0;
        boolean filling = random.nextInt(4) != 0;
        through = true;
        froms = model.schedule(ordering, filling);
        cycles = model.cycles(froms);
        filled = model.hasBranch() && !froms.contains(SlotFiller.NONE);
        words = new ArrayList<>();
        for (int from : froms) {
            words.add(from == SlotFiller.NONE ? Asm.NOP : model.words.get(from));
        }
        Check.same("schedule()", froms.size(), x.schedule(ordering, filling));
    }

    private void latency() {
        int of = random.nextInt(9) - 1;
        int told = random.nextInt(44) - 1;
        if (of < 0 || of > 6 || told < 1 || told > 40) {
            Check.refused("latency()", IllegalArgumentException.class, () -> x.latency(of, told));
            return;
        }
        Check.same("latency()", model.latencies[of], x.latency(of, told));
        model.latencies[of] = told;
        model.forget();
    }

    private int near(int size) {
        return random.nextInt(size + 2) - 1;
    }

    private void outcome() {
        int k = near(froms.size());
        boolean word = random.nextBoolean();
        String name = (word ? "word(" : "from(") + k + ")";
        if (k < 0 || k >= froms.size()) {
            Check.refused(name, IndexOutOfBoundsException.class,
                    () -> word ? x.word(k) : x.from(k));
        } else {
            Check.same(name, (word ? words : froms).get(k), word ? x.word(k) : x.from(k));
        }
    }

    private void depends() {
        int size = model.words.size();
        int j = near(size);
        int i = near(size);
        String name = "depends(" + j + ", " + i + ")";
        if (j < 0 || j >= size || i < 0 || i >= size) {
            Check.refused(name, IndexOutOfBoundsException.class, () -> x.depends(j, i));
        } else {
            Check.same(name, model.depends(j, i), x.depends(j, i));
        }
    }

    private void height() {
        int size = model.words.size();
        int i = near(size);
        if (i < 0 || i >= size) {
            Check.refused("height(" + i + ")", IndexOutOfBoundsException.class,
                    () -> x.height(i));
        } else {
            Check.same("height(" + i + ")", model.heights()[i], x.height(i));
        }
    }

    private void count() {
        int what = random.nextInt(6) - 1;
        int due = switch (what) {
            case 0 -> model.words.size();
            case 1 -> froms.size();
            case 2 -> froms.contains(SlotFiller.NONE) ? 1 : 0;
            case 3 -> filled ? 1 : 0;
            default -> SlotFiller.NONE;
        };
        Check.same("count(" + what + ")", due, x.count(what));
    }
}
