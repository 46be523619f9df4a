import java.util.Arrays;
import java.util.List;

/** Counts and prints what is not as due; a test ends by calling end(). */
final class Check {
    private static final int MOST_TOLD = 20;
    private static int wrong = 0;
    private static int asked = 0;
    private static String sentence = "";
    private static int wrongInSentence = 0;

    private Check() {
    }

    interface Call {
        long run();
    }

    /** The document's words that a test is about: told with what is wrong there. */
    static void sentence(String words, Runnable test) {
        sentence = "[" + words + "] ";
        wrongInSentence = 0;
        try {
            test.run();
        } catch (RuntimeException e) {
            tell("threw " + e + " at " + Arrays.asList(e.getStackTrace()));
        }
    }

    static void same(String what, long want, long got) {
        asked++;
        if (got != want) {
            tell(what + " answered " + got + ", due is " + want);
        }
    }

    static void holds(String what, boolean so) {
        asked++;
        if (!so) {
            tell(what);
        }
    }

    /** Exactly this exception, none of a class below it: those would be the machine's own. */
    static void refused(String what, Class<? extends RuntimeException> due, Call call) {
        asked++;
        try {
            long got = call.run();
            tell(what + " answered " + got + ", due is " + due.getSimpleName());
        } catch (RuntimeException e) {
            if (e.getClass() != due) {
                tell(what + " threw " + e + ", due is " + due.getSimpleName());
            }
        }
    }

    /** Refused, and everything that the object tells is as it was. */
    static void refusedUnchanged(
            String what, Class<? extends RuntimeException> due, SlotFiller filler, Call call) {
        String before = Seen.of(filler);
        refused(what, due, call);
        String after = Seen.of(filler);
        holds(what + " changed " + before + " into " + after, before.equals(after));
    }

    static void adds(SlotFiller filler, int... words) {
        for (int word : words) {
            filler.add(word);
        }
    }

    /** The indices that came out, one by one. */
    static void cameFrom(String what, SlotFiller filler, Integer... due) {
        same(what + ": words that came out", due.length, filler.count(1));
        for (int k = 0; k < due.length && k < filler.count(1); k++) {
            same(what + ": from(" + k + ") of " + List.of(due), due[k], filler.from(k));
        }
    }

    /** What schedule() makes of these words: indices of the block, NONE for a NOP of itself. */
    static SlotFiller comes(
            String what, boolean ordering, boolean filling, int[] words, Integer... due) {
        SlotFiller filler = Blocks.of(words);
        same(what + ": schedule()", due.length, filler.schedule(ordering, filling));
        cameFrom(what, filler, due);
        for (int k = 0; k < due.length && k < filler.count(1); k++) {
            int word = due[k] == SlotFiller.NONE ? Asm.NOP : words[due[k]];
            same(what + ": word(" + k + ")", word, filler.word(k));
        }
        return filler;
    }

    static void end() {
        System.out.println(asked + " answers, " + wrong + " not as due");
        if (wrong != 0) {
            System.exit(1);
        }
    }

    private static void tell(String text) {
        wrong++;
        wrongInSentence++;
        if (wrongInSentence <= MOST_TOLD) {
            System.out.println(sentence + text);
        }
    }
}
