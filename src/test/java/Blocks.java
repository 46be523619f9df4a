/** Blocks made of words, and a word's class, in one call each. */
final class Blocks {
    private Blocks() {
    }

    static SlotFiller of(int... words) {
        SlotFiller filler = new SlotFiller();
        Check.adds(filler, words);
        return filler;
    }

    static SlotFiller ofMany(int many, int word) {
        SlotFiller filler = new SlotFiller();
        for (int i = 0; i < many; i++) {
            filler.add(word);
        }
        return filler;
    }

    /** By how many cycles the last one depends on the first one, with those between them. */
    static int lastOnFirst(int... words) {
        return of(words).depends(words.length - 1, 0);
    }

    /** The class of a word that is its block's first one; NONE when there is no such. */
    static int kind(int word) {
        try {
            return new SlotFiller().add(word);
        } catch (IllegalArgumentException e) {
            return SlotFiller.NONE;
        }
    }
}
