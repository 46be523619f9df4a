import java.util.List;

/** Counts and prints what is not as due; a test ends by calling end(). */
final class Check {
    private static int wrong = 0;
    private static int asked = 0;

    private Check() {
    }

    interface Call {
        long run();
    }

    static void same(String what, long want, long got) {
        asked++;
        if (got != want) {
            tell(what + " answered " + got + ", due is " + want);
        }
    }

    static void holds(String what, boolean so) {
        asked++;
        if (!so) {
            tell(what);
        }
    }

    /** Exactly this exception, none of a class below it: those would be the machine's own. */
    static void refused(String what, Class<? extends RuntimeException> due, Call call) {
        asked++;
        try {
            long got = call.run();
            tell(what + " answered " + got + ", due is " + due.getSimpleName());
        } catch (RuntimeException e) {
            if (e.getClass() != due) {
                tell(what + " threw " + e + ", due is " + due.getSimpleName());
            }
        }
    }

    static void adds(SlotFiller filler, int... words) {
        for (int word : words) {
            filler.add(word);
        }
    }

    /** The indices that came out, one by one. */
    static void cameFrom(String what, SlotFiller filler, Integer... due) {
        same(what + ": words that came out", due.length, filler.count(1));
        for (int k = 0; k < due.length && k < filler.count(1); k++) {
            same(what + ": from(" + k + ") of " + List.of(due), due[k], filler.from(k));
        }
    }

    static void end() {
        System.out.println(asked + " answers, " + wrong + " not as due");
        if (wrong != 0) {
            System.exit(1);
        }
    }

    private static void tell(String text) {
        wrong++;
        if (wrong <= 50) {
            System.out.println(text);
        }
    }
}
