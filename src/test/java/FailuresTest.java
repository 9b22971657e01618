/** Promises 10, 12, 13, 18: interrupt, failure, trace, handled; TRIES, UNCAUGHT and the HANDLERS (7). */
public final class FailuresTest {
    public static void main(String[] args) {
        thrownKinds();
        triesOfKinds();
        triesThatAreDone();
        triesOfOneThatIsOver();
        failedChildOfAWait();
        failedChildrenOfAGather();
        causeOfALaterFailure();
        deep();
        full();
        traces();
        interruptArguments();
        interruptOnAThread();
        interruptReady();
        interruptWaiting();
        interruptBehindAWait();
        interruptCaught();
        uncaughtBehindTheGiver();
        uncaughtOrder();
        handlersInOrder();
        everyHandler();
        handledArguments();
        Due.close("FailuresTest");
    }

    private static void thrownKinds() {
        for (int kind = 0; kind < 4; kind++) {
            ErrandGuild x = Ops.guild();
            Ops.program(x, 5, Ops.PLUS, 0, 3, Ops.BIND, 3, 1, Ops.THROW, kind, 0);
            x.submit(5);
            x.beat(2);
            for (int what = 0; what < 5; what++) {
                Ops.fails(x, 0, what, -1);
            }
            Due.is("trace of one that is not failed", -1, x.trace(0, 0));
            x.beat(1);
            int[] run = {Ops.FAILED, 5, -1, 0, 0, -1, 3, 2, 0, 0, 3, 0, 1};
            for (int what = 0; what < run.length; what++) {
                Ops.runs(x, 0, what, run[what]);
            }
            int[] failure = {kind, 2, -1, 0, 1, -1, -1};
            for (int what = 0; what < failure.length; what++) {
                Ops.fails(x, 0, what, failure[what]);
            }
            Ops.fails(x, 0, -1, -1);
            Ops.fails(x, 1, 0, -1);
            Ops.fails(x, -1, 0, -1);
            Due.is("trace(0, 0)", 5 * 32 + 2, x.trace(0, 0));
        }
    }

    private static void triesOfKinds() {
        ErrandGuild x = Ops.guild();
        // the innermost is for another kind: it closes with the one that catches
        Ops.program(x, 0, Ops.TRY, 8, 6, Ops.TRY, 1, 5, Ops.TRY, 2, 4, Ops.THROW, 1, 0, Ops.PLUS, 0, 1000,
                Ops.PLUS, 0, 1, Ops.PLUS, 0, 2);
        Ops.program(x, 1, Ops.TRY, 0, 3, Ops.THROW, 1, 0, Ops.PLUS, 0, 1, Ops.PLUS, 0, 2);
        Ops.program(x, 2, Ops.TRY, 5, 2, Ops.DONE, 0, 0, Ops.DONE, 0, 0, Ops.PLUS, 0, 1);
        Ops.program(x, 3, Ops.TRY, 5, 3, Ops.TRY, 5, 3, Ops.DONE, 0, 0, Ops.FREE, 3, 0);
        x.threads(4);
        for (int e = 0; e < 4; e++) {
            x.submit(e);
        }
        x.beat(3);
        Ops.runs(x, 0, Ops.TRIES, 3);
        Ops.runs(x, 3, Ops.TRIES, 1);
        x.beat(1);
        Ops.runs(x, 0, Ops.TRIES, 1);
        Ops.runs(x, 0, Ops.PLACE, 5);
        Ops.runs(x, 0, Ops.STATE, Ops.ON);
        Ops.runs(x, 0, Ops.THREAD, 0);
        Ops.beatOut(x);
        Ops.runs(x, 0, Ops.SUM, 3);
        Ops.fails(x, 1, Ops.KIND, 1);
        Ops.fails(x, 1, Ops.STEP, 1);
        Ops.fails(x, 2, Ops.KIND, Ops.WRONG);
        Ops.fails(x, 2, Ops.STEP, 2);
        // the free fails twice: the first time it is caught and led to itself
        Ops.fails(x, 3, Ops.STEP, 3);
        Ops.runs(x, 3, Ops.OVER, 5);
    }

    private static void triesThatAreDone() {
        ErrandGuild x = Ops.guild();
        Ops.program(x, 0, Ops.TRY, 0, 6, Ops.TRY, 0, 5, Ops.DONE, 0, 0, Ops.BIND, 3, 1, Ops.THROW, 0, 0,
                Ops.PLUS, 0, 1, Ops.PLUS, 0, 2);
        x.submit(0);
        x.beat(5);
        Ops.runs(x, 0, Ops.PLACE, 6);
        Ops.runs(x, 0, Ops.TRIES, 0);
        Ops.runs(x, 0, Ops.BINDINGS, 0);
        Ops.beatOut(x);
        Ops.runs(x, 0, Ops.SUM, 2);
    }

    /** The document ends BINDINGS there, and says nothing of TRIES: they stay as they were. */
    private static void triesOfOneThatIsOver() {
        ErrandGuild x = Ops.guild();
        Ops.program(x, 0, Ops.TRY, 0, 3, Ops.BIND, 3, 1, Ops.THROW, 1, 0);
        Ops.program(x, 1, Ops.TRY, 0, 3, Ops.BIND, 3, 1);
        x.submit(0);
        x.submit(1);
        Ops.beatOut(x);
        Ops.runs(x, 0, Ops.STATE, Ops.FAILED);
        Ops.runs(x, 1, Ops.STATE, Ops.ENDED);
        for (int r = 0; r < 2; r++) {
            Ops.runs(x, r, Ops.TRIES, 1);
            Ops.runs(x, r, Ops.BINDINGS, 0);
        }
    }

    private static void failedChildOfAWait() {
        ErrandGuild x = Ops.guild();
        Ops.program(x, 0, Ops.TRY, 3, 3, Ops.HAND, 1, 1, Ops.PLUS, 0, 1000, Ops.PLUS, 0, 1);
        Ops.program(x, 1, Ops.PLUS, 0, 50, Ops.HAND, 2, 1, Ops.PLUS, 0, 1000);
        Ops.program(x, 2, Ops.PLUS, 0, 70, Ops.THROW, 3, 0);
        x.submit(0);
        Ops.beatOut(x);
        Ops.runs(x, 0, Ops.STATE, Ops.ENDED);
        Ops.runs(x, 0, Ops.SUM, 1);
        Ops.runs(x, 1, Ops.SUM, 50);
        Ops.runs(x, 1, Ops.PLACE, 1);
        int[] failure = {3, 1, 2, 0, 0};
        for (int what = 0; what < 5; what++) {
            Ops.fails(x, 1, what, failure[what]);
        }
        Ops.fails(x, 2, Ops.CAUSE, -1);
        Ops.fails(x, 2, Ops.UNCAUGHT, 0);
        Due.is("count(9)", 0, x.count(9));
    }

    private static void failedChildrenOfAGather() {
        ErrandGuild x = Ops.guild();
        x.threads(6);
        Ops.program(x, 0, Ops.HAND, 4, 0, Ops.HAND, 1, 0, Ops.HAND, 2, 0, Ops.HAND, 3, 0, Ops.HAND, 4, 0,
                Ops.GATHER, 0, 0, Ops.PLUS, 0, 1000);
        Ops.program(x, 1, Ops.PLUS, 0, 1, Ops.PLUS, 0, 1, Ops.PLUS, 0, 1, Ops.PLUS, 0, 1, Ops.PLUS, 0, 1,
                Ops.THROW, 1, 0);
        Ops.program(x, 2, Ops.THROW, 2, 0);
        Ops.program(x, 3, Ops.THROW, 3, 0);
        Ops.program(x, 4, Ops.PLUS, 0, 8);
        x.submit(0);
        Ops.beatOut(x);
        // the first by number is the last to fail
        int[] failure = {1, 5, 2, 2, 1};
        for (int what = 0; what < 5; what++) {
            Ops.fails(x, 0, what, failure[what]);
        }
        Ops.runs(x, 0, Ops.SUM, 16);
        for (int r = 2; r < 5; r++) {
            Ops.fails(x, r, Ops.UNCAUGHT, 0);
        }
    }

    private static void causeOfALaterFailure() {
        ErrandGuild x = Ops.guild();
        Ops.program(x, 0, Ops.TRY, 8, 3, Ops.SPLIT, 1, 3, Ops.GATHER, 0, 0, Ops.GATHER, 0, 0, Ops.THROW, 2, 0);
        Ops.program(x, 1, Ops.THROW, 1, 0);
        x.submit(0);
        Ops.beatOut(x);
        int[] failure = {2, 4, -1, 0, 1};
        for (int what = 0; what < 5; what++) {
            Ops.fails(x, 0, what, failure[what]);
        }
    }

    private static void deep() {
        for (int op = Ops.HAND; op <= Ops.SPLIT; op++) {
            ErrandGuild x = Ops.guild();
            Ops.program(x, 0, Ops.HAND, 0, 1);
            Ops.program(x, 1, Ops.SPLIT, 1, 2, Ops.GATHER, 0, 0);
            x.submit(op - Ops.HAND);
            Ops.beatOut(x);
            int last = x.count(0) - 1;
            Due.is("runs", op == Ops.HAND ? 7 : 127, x.count(0));
            Ops.runs(x, last, Ops.DEPTH, 6);
            Ops.runs(x, last, Ops.CHILDREN, 0);
            Ops.fails(x, last, Ops.KIND, Ops.DEEP);
            Ops.fails(x, last, Ops.STEP, 0);
            Ops.fails(x, 0, Ops.KIND, Ops.DEEP);
            Due.is("count(7)", x.count(0), x.count(7));
        }
    }

    private static void full() {
        ErrandGuild x = Ops.guild();
        Ops.program(x, 0, Ops.PLUS, 0, 0, Ops.SPLIT, 1, 4, Ops.PLUS, 0, 1);
        Ops.program(x, 2, Ops.HAND, 1, 1);
        x.submit(0);
        x.submit(2);
        for (int r = 2; r < 197; r++) {
            x.submit(3);
        }
        Ops.beatOut(x);
        Due.is("count(0)", 200, x.count(0));
        // run 1 hands in the first beat, so the split finds room for two
        Ops.runs(x, 0, Ops.CHILDREN, 2);
        Ops.fails(x, 0, Ops.KIND, Ops.FULL);
        Ops.fails(x, 0, Ops.STEP, 1);
        Ops.runs(x, 0, Ops.PLACE, 1);
        Ops.runs(x, 1, Ops.STATE, Ops.ENDED);
        Ops.runs(x, 198, Ops.STATE, Ops.ENDED);
        Ops.runs(x, 199, Ops.GIVER, 0);
        Due.is("child(0, 1)", 199, x.child(0, 1));
        Due.is("submit", -1, x.submit(3));
        deepBeforeFull();
    }

    private static void deepBeforeFull() {
        ErrandGuild x = Ops.guild();
        Ops.program(x, 0, Ops.HAND, 0, 1);
        x.submit(0);
        x.beat(6);
        Due.is("count(0)", 7, x.count(0));
        for (int r = 7; r < 200; r++) {
            x.submit(1);
        }
        Ops.beatOut(x);
        Ops.fails(x, 6, Ops.KIND, Ops.DEEP);
    }

    private static void traces() {
        ErrandGuild x = Ops.guild();
        Ops.program(x, 1, Ops.PLUS, 0, 0, Ops.HAND, 2, 0, Ops.GATHER, 0, 0);
        Ops.program(x, 2, Ops.PLUS, 0, 0, Ops.PLUS, 0, 0, Ops.SPLIT, 7, 2, Ops.GATHER, 0, 0);
        Ops.program(x, 7, Ops.THROW, 0, 0);
        x.submit(1);
        Ops.beatOut(x);
        int[][] rows = {{34, -1, -1, -1}, {67, 33, -1, -1}, {224, 66, 33, -1}, {224, 66, 33, -1}};
        for (int r = 0; r < rows.length; r++) {
            for (int i = 0; i < 4; i++) {
                Due.is("trace(" + r + ", " + i + ")", rows[r][i], x.trace(r, i));
            }
            Due.is("trace(" + r + ", -1)", -1, x.trace(r, -1));
            Due.is("trace(" + r + ", far)", -1, x.trace(r, Integer.MAX_VALUE));
        }
        Due.is("trace(-1, 0)", -1, x.trace(-1, 0));
        Due.is("trace(4, 0)", -1, x.trace(4, 0));
    }

    private static void interruptArguments() {
        ErrandGuild x = Ops.guild();
        Ops.program(x, 0, Ops.THROW, 0, 0);
        x.submit(0);
        x.submit(1);
        int[] none = {Integer.MIN_VALUE, -1, 2, 200, Integer.MAX_VALUE};
        for (int r : none) {
            Due.is("interrupt(" + r + ")", false, x.interrupt(r));
        }
        x.beat(1);
        Due.is("interrupt of one that is failed", false, x.interrupt(0));
        Due.is("interrupt of one that is ended", false, x.interrupt(1));
        Ops.fails(x, 0, Ops.KIND, 0);
        Ops.runs(x, 1, Ops.STATE, Ops.ENDED);
    }

    private static void interruptOnAThread() {
        ErrandGuild x = Ops.guild();
        Ops.program(x, 0, Ops.PLUS, 0, 1, Ops.PLUS, 0, 2);
        x.submit(0);
        x.submit(0);
        x.beat(1);
        Due.is("interrupt(0)", true, x.interrupt(0));
        Due.is("interrupt(0) again", false, x.interrupt(0));
        Ops.runs(x, 0, Ops.STATE, Ops.ON);
        x.beat(1);
        int[] failure = {Ops.INTERRUPTED, 1, -1, 0, 1};
        for (int what = 0; what < 5; what++) {
            Ops.fails(x, 0, what, failure[what]);
        }
        Ops.runs(x, 0, Ops.SUM, 1);
        Ops.runs(x, 1, Ops.SUM, 3);
        Due.is("interrupt where the end would be", true, x.interrupt(1));
        x.beat(1);
        Ops.fails(x, 1, Ops.STEP, 2);
        Due.is("trace", 2, x.trace(1, 0));
        Due.is("count(10)", 5, x.count(10));
    }

    private static void interruptReady() {
        ErrandGuild x = Ops.guild();
        x.threads(1);
        Ops.program(x, 0, Ops.PLUS, 0, 1);
        x.submit(0);
        x.submit(0);
        Due.is("interrupt(1)", true, x.interrupt(1));
        Ops.runs(x, 1, Ops.STATE, Ops.READY);
        x.beat(2);
        Ops.runs(x, 1, Ops.STATE, Ops.READY);
        Due.is("not noticed yet", false, x.interrupt(1));
        Due.is("beats", 1, x.beat(100));
        Ops.fails(x, 1, Ops.KIND, Ops.INTERRUPTED);
        Ops.fails(x, 1, Ops.STEP, 0);
        Ops.runs(x, 1, Ops.VISITS, 1);
    }

    private static void interruptWaiting() {
        ErrandGuild x = Ops.guild();
        Ops.program(x, 0, Ops.TRY, 4, 4, Ops.SPLIT, 1, 2, Ops.GATHER, 0, 0, Ops.PLUS, 0, 1000, Ops.GATHER, 0, 0);
        Ops.program(x, 1, Ops.PLUS, 0, 1, Ops.PLUS, 0, 1, Ops.PLUS, 0, 1, Ops.PLUS, 0, 1, Ops.THROW, 0, 0);
        x.threads(4);
        x.submit(0);
        x.beat(3);
        Ops.runs(x, 0, Ops.STATE, Ops.WAITS);
        Due.is("interrupt(0)", true, x.interrupt(0));
        Ops.runs(x, 0, Ops.STATE, Ops.READY);
        Ops.runs(x, 0, Ops.PLACE, 2);
        x.beat(1);
        Ops.runs(x, 0, Ops.STATE, Ops.ON);
        Ops.runs(x, 0, Ops.PLACE, 4);
        x.beat(1);
        // the two count as waited for: there is nothing to gather
        Ops.runs(x, 0, Ops.PLACE, 5);
        Ops.beatOut(x);
        Ops.runs(x, 0, Ops.STATE, Ops.ENDED);
        Ops.runs(x, 0, Ops.SUM, 0);
        Ops.fails(x, 1, Ops.UNCAUGHT, 0);
        Ops.fails(x, 2, Ops.UNCAUGHT, 0);
        Due.is("count(9)", 0, x.count(9));
    }

    private static void interruptBehindAWait() {
        ErrandGuild x = Ops.guild();
        Ops.program(x, 0, Ops.TRY, 4, 3, Ops.HAND, 1, 1, Ops.PLUS, 0, 1000, Ops.GATHER, 0, 0, Ops.PLUS, 0, 5);
        Ops.program(x, 1, Ops.PLUS, 0, 70);
        x.submit(0);
        x.beat(4);
        Ops.runs(x, 1, Ops.STATE, Ops.ENDED);
        Ops.runs(x, 0, Ops.STATE, Ops.READY);
        Due.is("interrupt(0)", true, x.interrupt(0));
        x.beat(1);
        Ops.runs(x, 0, Ops.PLACE, 3);
        Ops.runs(x, 0, Ops.SUM, 0);
        Ops.beatOut(x);
        Ops.runs(x, 0, Ops.SUM, 5);
    }

    private static void interruptCaught() {
        ErrandGuild x = Ops.guild();
        Ops.program(x, 0, Ops.TRY, 8, 3, Ops.PLUS, 0, 1, Ops.PLUS, 0, 10, Ops.PLUS, 0, 100, Ops.PLUS, 0, 1000);
        x.submit(0);
        x.beat(2);
        Due.is("interrupt(0)", true, x.interrupt(0));
        x.beat(2);
        Ops.runs(x, 0, Ops.SUM, 101);
        Due.is("one that was noticed is over: interrupt(0)", true, x.interrupt(0));
        x.beat(1);
        Ops.fails(x, 0, Ops.KIND, Ops.INTERRUPTED);
        Ops.fails(x, 0, Ops.STEP, 4);
    }

    private static void uncaughtBehindTheGiver() {
        ErrandGuild x = Ops.guild();
        x.handler(2, 0, 9, false);
        Ops.program(x, 0, Ops.HAND, 1, 0, Ops.PLUS, 0, 0, Ops.PLUS, 0, 0);
        Ops.program(x, 1, Ops.THROW, 1, 0);
        Ops.program(x, 2, Ops.HAND, 3, 0);
        Ops.program(x, 3, Ops.PLUS, 0, 0, Ops.PLUS, 0, 0, Ops.THROW, 1, 0);
        x.submit(0);
        x.submit(4);
        x.beat(2);
        // run 2 fails while its giver could still gather it
        Ops.fails(x, 2, Ops.KIND, 1);
        Ops.fails(x, 2, Ops.UNCAUGHT, 0);
        x.beat(1);
        Ops.fails(x, 2, Ops.UNCAUGHT, 0);
        Ops.beatOut(x);
        Ops.runs(x, 0, Ops.STATE, Ops.ENDED);
        Ops.fails(x, 2, Ops.UNCAUGHT, 1);
        Due.is("handled(0, 0)", 2, x.handled(0, 0));
        x.submit(2);
        x.beat(3);
        Ops.runs(x, 3, Ops.STATE, Ops.ENDED);
        Due.is("count(9)", 1, x.count(9));
        x.beat(1);
        Ops.fails(x, 4, Ops.UNCAUGHT, 1);
        Due.is("handled(1, 0)", 4, x.handled(1, 0));
        Due.is("count(9)", 2, x.count(9));
    }

    private static void uncaughtOrder() {
        ErrandGuild x = Ops.guild();
        x.handler(2, 0, 9, false);
        x.threads(6);
        Ops.program(x, 0, Ops.HAND, 1, 0, Ops.HAND, 3, 1, Ops.HAND, 2, 0, Ops.PLUS, 0, 0, Ops.PLUS, 0, 0,
                Ops.THROW, 3, 0);
        Ops.program(x, 1, Ops.PLUS, 0, 0, Ops.PLUS, 0, 0, Ops.PLUS, 0, 0, Ops.PLUS, 0, 0, Ops.THROW, 1, 0);
        Ops.program(x, 2, Ops.THROW, 2, 0);
        x.submit(0);
        Ops.beatOut(x);
        int[] asked = {0, 1, 3, -1};
        for (int i = 0; i < asked.length; i++) {
            Due.is("handled(" + i + ", 0)", asked[i], x.handled(i, 0));
        }
    }

    private static void handlersInOrder() {
        int[][] told = {
            // the errand's, the kind's and the office's: throwing 1, not 0, none -1
            {1, 1, 1}, {0, 1, 1}, {1, 0, 1}, {1, 1, 0}, {-1, 1, 1}, {-1, 0, 0}, {1, -1, 0}, {-1, -1, 0},
            {-1, -1, -1}, {1, -1, -1},
        };
        for (int[] how : told) {
            ErrandGuild x = Ops.guild();
            Ops.program(x, 5, Ops.THROW, 3, 0);
            int[] of = {5, 3, 77};
            for (int level = 0; level < 3; level++) {
                // those of others are never asked
                x.handler(0, 3, 5, false);
                x.handler(1, 5, 5, false);
                if (how[level] >= 0) {
                    x.handler(level, of[level], 1, how[level] == 0);
                    x.handler(level, of[level], -1 - level, how[level] == 1);
                }
            }
            x.submit(5);
            Ops.beatOut(x);
            int asked = 0;
            boolean open = true;
            for (int level = 0; level < 3 && open; level++) {
                if (how[level] >= 0) {
                    int[] row = {0, level, -1 - level, how[level]};
                    for (int what = 0; what < 4; what++) {
                        Due.is("handled(" + asked + ", " + what + ")", row[what], x.handled(asked, what));
                    }
                    asked++;
                    open = how[level] == 1;
                }
            }
            Due.is("count(9)", asked, x.count(9));
            Due.is("handled behind the last", -1, x.handled(asked, 0));
            Ops.fails(x, 0, Ops.UNCAUGHT, 1);
        }
    }

    /** Each ERRAND and each KIND has its own. */
    private static void everyHandler() {
        ErrandGuild x = Ops.guild();
        for (int i = 0; i < 8; i++) {
            x.handler(0, i, 100 + i, true);
            x.handler(1, i, 200 + i, false);
        }
        int[][] steps = {{Ops.THROW, 0, 0}, {Ops.THROW, 1, 0}, {Ops.THROW, 2, 0}, {Ops.THROW, 3, 0},
            {Ops.PLUS, 0, 0}, {Ops.FREE, 3, 0}, {Ops.HAND, 6, 0}, {Ops.SPLIT, 0, 4}};
        for (int e = 0; e < 8; e++) {
            Ops.program(x, e, steps[e]);
        }
        for (int e = 0; e < 6; e++) {
            x.submit(e);
        }
        x.interrupt(4);
        Ops.beatOut(x);
        for (int e = 0; e < 6; e++) {
            int[] rows = {e, 0, 100 + e, 1, e, 1, 200 + e, 0};
            for (int what = 0; what < 8; what++) {
                Due.is("handled of errand " + e, rows[what], x.handled(2 * e + what / 4, what % 4));
            }
        }
        x.submit(6);
        Ops.beatOut(x);
        // seven runs of errand 6, the last of which goes too deep
        Due.is("handled of deep", 12, x.handled(12, 0));
        Due.is("handled of deep", 106, x.handled(12, 2));
        Due.is("handled of deep", 206, x.handled(13, 2));
        for (int r = 13; r < 200; r++) {
            x.submit(7);
        }
        Ops.beatOut(x);
        Due.is("handled of full", 107, x.handled(14, 2));
        Due.is("handled of full", 207, x.handled(15, 2));
    }

    private static void handledArguments() {
        ErrandGuild x = Ops.guild();
        Ops.program(x, 0, Ops.THROW, 0, 0);
        x.threads(6);
        x.handler(0, 0, 1, true);
        x.handler(1, 0, 2, true);
        x.handler(2, 0, 3, true);
        for (int r = 0; r < 200; r++) {
            x.submit(0);
        }
        Ops.beatOut(x);
        Due.is("count(9)", 600, x.count(9));
        Due.is("handled(599, 0)", 199, x.handled(599, 0));
        Due.is("handled(599, 1)", 2, x.handled(599, 1));
        Due.is("handled(599, 2)", 3, x.handled(599, 2));
        Due.is("handled(599, 3)", 1, x.handled(599, 3));
        int[] none = {Integer.MIN_VALUE, -1, 600, 1 << 30, Integer.MAX_VALUE};
        for (int i : none) {
            for (int what = 0; what < 4; what++) {
                Due.is("handled(" + i + ", " + what + ")", -1, x.handled(i, what));
            }
        }
        Due.is("handled(0, -1)", -1, x.handled(0, -1));
        Due.is("handled(0, 4)", -1, x.handled(0, 4));
    }
}
