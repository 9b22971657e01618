/** The document's numbers by name, and short ways to write programs of STEPS. */
final class Ops {
    static final int NONE = ErrandGuild.NONE;

    static final int OWN = 0, INHERITED = 1, SHARED = 2, BOUND = 3, WIPED = 4;
    static final int INTERRUPTED = 4, WRONG = 5, DEEP = 6, FULL = 7, ALL = 8;
    static final int WRITE = 0, ADD = 1, BIND = 2, FREE = 3, HAND = 4, SPLIT = 5, GATHER = 6, REMARK = 7, THROW = 8,
            TRY = 9, DONE = 10, PLUS = 11, END = 12;
    static final int READY = 0, ON = 1, WAITS = 2, ENDED = 3, FAILED = 4;

    // what run(r, ..) tells
    static final int STATE = 0, ERRAND = 1, GIVER = 2, ROOT = 3, DEPTH = 4, THREAD = 5, SUM = 6, PLACE = 7,
            BINDINGS = 8, TRIES = 9, OVER = 10, CHILDREN = 11, VISITS = 12;
    // what failure(r, ..) tells
    static final int KIND = 0, STEP = 1, CAUSE = 2, SUPPRESSED = 3, UNCAUGHT = 4;

    private Ops() {
    }

    /** A new object with SLOTS 0 to 4 of the five manners by their numbers, FIRST 10 to 14. */
    static ErrandGuild guild() {
        ErrandGuild x = new ErrandGuild();
        for (int s = 0; s < 5; s++) {
            Due.is("slot " + s, true, x.slot(s, s, 10 + s));
        }
        return x;
    }

    /** Puts STEPS, three numbers each, behind ERRAND e's. */
    static void program(ErrandGuild x, int e, int... steps) {
        for (int i = 0; i + 2 < steps.length; i += 3) {
            int got = x.step(e, steps[i], steps[i + 1], steps[i + 2]);
            Due.is("a step of errand " + e + " is taken", true, got > 0);
        }
    }

    static void runs(ErrandGuild x, int r, int what, int want) {
        Due.is("run(" + r + ", " + what + ")", want, x.run(r, what));
    }

    static void fails(ErrandGuild x, int r, int what, int want) {
        Due.is("failure(" + r + ", " + what + ")", want, x.failure(r, what));
    }

    /** BEATS till nothing is left to do. */
    static int beatOut(ErrandGuild x) {
        int all = 0;
        for (int i = 0; i < 400; i++) {
            int done = x.beat(100);
            all += done;
            if (done < 100) {
                return all;
            }
        }
        return all;
    }
}
