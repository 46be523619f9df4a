import java.util.List;
import java.util.Random;

/** All promises together: many blocks, each held against the model; the seed is written here. */
final class RandomBlocksTest {
    private static final int ROUNDS = 1000;
    private static final int MOST_CALLS = 512;
    private static final List<Manual.Entry> MEMORY = Manual.ENTRIES.stream()
            .filter(entry -> entry.kind == 1 || entry.kind == 2).toList();

    private RandomBlocksTest() {
    }

    public static void main(String[] args) {
        Random random = new Random(20261115);
        for (int round = 0; round < ROUNDS; round++) {
            oneObject(random, "round " + round);
        }
        Check.end();
    }

    private static void oneObject(Random random, String name) {
        SlotFiller x = new SlotFiller();
        Model model = new Model();
        int many = random.nextInt(4) == 0 ? 40 : random.nextInt(16);
        fill(random, x, model, many);
        for (int k = 0; k < 3; k++) {
            boolean ordering = random.nextInt(4) != 0;
            boolean filling = random.nextInt(4) != 0;
            List<Integer> due = model.schedule(ordering, filling);
            Check.same(name + " schedule()", due.size(), x.schedule(ordering, filling));
            Check.cameFrom(name, x, due.toArray(new Integer[0]));
            int cycles = model.cycles(due);
            Check.same(name + " cycles()", cycles, x.cycles());
            Check.same(name + " NOPs", due.contains(-1) ? 1 : 0, x.count(2));
            Check.same(name + " filled", model.hasBranch() && !due.contains(-1) ? 1 : 0,
                    x.count(3));
            latencies(random, x, model);
            Check.same(name + " cycles() as then", cycles, x.cycles());
            relations(random, x, model, name);
        }
    }

    private static void fill(Random random, SlotFiller x, Model model, int many) {
        for (int tries = 0; tries < MOST_CALLS / 4 && model.words.size() < many; tries++) {
            int word = word(random);
            Manual.Entry entry = Manual.find(word);
            boolean last = model.words.size() == many - 1;
            boolean fits = entry != null && (entry.kind != 7 || last)
                    && (entry.kind != 8 || random.nextInt(4) == 0);
            if (fits) {
                Check.same("class of " + entry.name, entry.kind, x.add(word));
                model.words.add(word);
            }
        }
        if (many > 0 && model.words.size() < 40 && !model.hasBranch() && random.nextInt(3) != 0) {
            int branch = Asm.beq(random.nextInt(6), 0);
            x.add(branch);
            model.words.add(branch);
        }
    }

    /** Registers and offsets so few that instructions often have something in common. */
    private static int word(Random random) {
        Manual.Entry entry = random.nextInt(3) == 0
                ? any(random, MEMORY) : any(random, Manual.ENTRIES);
        int fields = random.nextInt(6) << 21 | random.nextInt(6) << 16
                | random.nextInt(6) << 11 | random.nextInt(6) << 6 | random.nextInt(64);
        if (entry.kind == 1 || entry.kind == 2) {
            fields = fields & 0x001f0000 | (1 + random.nextInt(2)) << 21
                    | random.nextInt(24) - 8 & 0xffff;
        }
        if (random.nextInt(20) == 0) {
            fields |= 31 << 16 | 31 << 21;
        }
        return entry.bits | fields & ~entry.mask;
    }

    private static Manual.Entry any(Random random, List<Manual.Entry> entries) {
        return entries.get(random.nextInt(entries.size()));
    }

    private static void latencies(Random random, SlotFiller x, Model model) {
        for (int of = 0; of <= 6; of++) {
            int cycles = random.nextInt(3) == 0 ? 1 + random.nextInt(40) : 1 + random.nextInt(5);
            Check.same("latency of " + of, model.latencies[of], x.latency(of, cycles));
            model.latencies[of] = cycles;
        }
        model.forget();
    }

    private static void relations(Random random, SlotFiller x, Model model, String name) {
        int size = model.words.size();
        int[] heights = model.heights();
        for (int k = 0; k < 20 && size > 0; k++) {
            int i = random.nextInt(size);
            int j = random.nextInt(size);
            Check.same(name + " height(" + i + ")", heights[i], x.height(i));
            Check.same(name + " depends(" + j + ", " + i + ")", model.depends(j, i),
                    x.depends(j, i));
        }
    }
}
