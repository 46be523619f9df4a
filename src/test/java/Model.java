import java.util.ArrayList;
import java.util.Collections;
import java.util.List;
import java.util.Set;
import java.util.TreeSet;

/** The document's terms in sets and lists, slow and plain, to hold the program against. */
final class Model {
    final int[] latencies = {1, 2, 1, 4, 20, 3, 15, 1, 1};
    final List<Integer> words = new ArrayList<>();
    private int[][] table = null;

    int kind(int i) {
        return Manual.find(words.get(i)).kind;
    }

    int latency(int i) {
        return latencies[kind(i)];
    }

    boolean hasBranch() {
        return !words.isEmpty() && kind(words.size() - 1) == 7;
    }

    /** Kept, for sets are slow; forget() when a word or a latency is another one. */
    int depends(int j, int i) {
        if (table == null) {
            table = new int[words.size()][words.size()];
            for (int late = 0; late < words.size(); late++) {
                for (int early = 0; early < words.size(); early++) {
                    table[late][early] = early < late ? onEarlier(late, early) : -1;
                }
            }
        }
        return table[j][i];
    }

    void forget() {
        table = null;
    }

    private int onEarlier(int j, int i) {
        int most = -1;
        if (meet(Manual.reads(words.get(j)), Manual.writes(words.get(i)))) {
            most = Math.max(most, latency(i));
        }
        if (meet(Manual.writes(words.get(j)), Manual.reads(words.get(i)))) {
            most = Math.max(most, 1);
        }
        if (meet(Manual.writes(words.get(j)), Manual.writes(words.get(i)))) {
            most = Math.max(most, Math.max(1, latency(i) - latency(j) + 1));
        }
        if (kind(i) == 8 || kind(j) == 8) {
            most = Math.max(most, 1);
        }
        boolean memory = (kind(i) == 1 || kind(i) == 2) && (kind(j) == 1 || kind(j) == 2);
        if (memory && (kind(i) == 2 || kind(j) == 2) && !apart(j, i)) {
            most = Math.max(most, 1);
        }
        return most;
    }

    private boolean apart(int j, int i) {
        int s = words.get(j) >> 21 & 31;
        if (s != (words.get(i) >> 21 & 31)) {
            return false;
        }
        for (int k = i; k < j; k++) {
            if (Manual.writes(words.get(k)).contains("r" + s)) {
                return false;
            }
        }
        return Collections.disjoint(bytes(words.get(j)), bytes(words.get(i)));
    }

    private static Set<Integer> bytes(int word) {
        String name = Manual.find(word).name;
        int first = (short) word;
        int many = switch (name) {
            case "LB", "LBU", "SB" -> 1;
            case "LH", "LHU", "SH" -> 2;
            case "LDC1", "SDC1" -> 8;
            default -> 4;
        };
        if (Set.of("LWL", "LWR", "SWL", "SWR").contains(name)) {
            first = Math.floorDiv(first, 4) * 4;
        }
        Set<Integer> set = new TreeSet<>();
        for (int k = 0; k < many; k++) {
            set.add(first + k);
        }
        return set;
    }

    private static boolean meet(Set<String> a, Set<String> b) {
        return !Collections.disjoint(a, b);
    }

    int[] heights() {
        int[] heights = new int[words.size()];
        for (int i = words.size() - 1; i >= 0; i--) {
            heights[i] = -1;
            for (int j = i + 1; j < words.size(); j++) {
                if (depends(j, i) != -1) {
                    heights[i] = Math.max(heights[i], heights[j] + depends(j, i));
                }
            }
            if (heights[i] == -1) {
                heights[i] = latency(i);
            }
        }
        return heights;
    }

    /** What comes out: indices of the block, -1 for a NOP that comes of itself. */
    List<Integer> schedule(boolean ordering, boolean filling) {
        List<Integer> order = ordering ? ordered() : asAdded();
        if (!hasBranch()) {
            return order;
        }
        int branch = words.size() - 1;
        int slot = -1;
        if (filling && !Manual.find(words.get(branch)).isLikely()) {
            for (int i : order) {
                if (kind(i) != 8 && isFree(i)) {
                    slot = i;
                }
            }
        }
        if (slot != -1) {
            order.remove((Integer) slot);
        }
        order.add(branch);
        order.add(slot);
        return order;
    }

    private boolean isFree(int i) {
        for (int j = 0; j < words.size(); j++) {
            if (depends(j, i) != -1) {
                return false;
            }
        }
        return true;
    }

    private int manyOrdered() {
        return words.size() - (hasBranch() ? 1 : 0);
    }

    private List<Integer> asAdded() {
        List<Integer> order = new ArrayList<>();
        for (int i = 0; i < manyOrdered(); i++) {
            order.add(i);
        }
        return order;
    }

    private List<Integer> ordered() {
        int[] heights = heights();
        int[] placedAt = new int[words.size()];
        List<Integer> order = new ArrayList<>();
        for (int cycle = 0; order.size() < manyOrdered(); cycle++) {
            int best = -1;
            for (int j = manyOrdered() - 1; j >= 0; j--) {
                if (!order.contains(j) && isReady(j, order, placedAt, cycle)
                        && (best == -1 || heights[j] >= heights[best])) {
                    best = j;
                }
            }
            if (best != -1) {
                order.add(best);
                placedAt[best] = cycle;
            }
        }
        return order;
    }

    private boolean isReady(int j, List<Integer> order, int[] placedAt, int cycle) {
        for (int i = 0; i < j; i++) {
            int by = depends(j, i);
            if (by != -1 && (!order.contains(i) || cycle - placedAt[i] < by)) {
                return false;
            }
        }
        return true;
    }

    int cycles(List<Integer> outcome) {
        int now = -1;
        int[] begun = new int[words.size()];
        List<Integer> before = new ArrayList<>();
        for (int j : outcome) {
            now++;
            if (j != -1) {
                for (int i : before) {
                    if (depends(j, i) != -1) {
                        now = Math.max(now, begun[i] + depends(j, i));
                    }
                }
                begun[j] = now;
                before.add(j);
            }
        }
        return now + 1;
    }
}
