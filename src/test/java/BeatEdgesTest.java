/** The edges that the second part of 'Terms' names: BEATS, waiting, INTERRUPT, UNCAUGHT and HANDLERS. */
public final class BeatEdgesTest {
    public static void main(String[] args) {
        threadsThereAre();
        readyByNumbers();
        oneStepEach();
        whoLeavesItsThread();
        readyFromTheNextBeat();
        leastNumberNotWhoWasReadyFirst();
        waitingBecomesReady();
        answersInPlaceOfAStep();
        answersOfThoseThatAreFailedNot();
        causeAndSuppressed();
        failureBehindAWaitIsCaught();
        gatherAtOnce();
        gatherAtOnceWithFailures();
        interruptInPlaceOfAStep();
        interruptOfOneThatWaits();
        interruptedCountAsWaitedFor();
        interruptedWhileReadyBehindAWait();
        interruptNoticedOnce();
        uncaughtWithoutAGiver();
        uncaughtAtTheGiversEnd();
        uncaughtBehindTheGiversEnd();
        uncaughtByNumbersBehindTheGiver();
        caughtByAWaitOrAGather();
        handlersAsked();
        handlersThatThereAre();
        memoryIsTheOfficesOwn();
        Due.close("BeatEdgesTest");
    }

    private static void plusses(ErrandGuild x, int e, int many) {
        for (int i = 0; i < many; i++) {
            x.step(e, Ops.PLUS, 0, 1);
        }
    }

    private static void threadsThereAre() {
        Doc.says("THREADS 0 to n - 1 (n 1 to 6; 2 at first).");
        for (int n = 0; n <= 7; n++) {
            ErrandGuild x = new ErrandGuild();
            int there = n < 1 || n > 6 ? 2 : n;
            Due.is("threads(" + n + ")", n == there, x.threads(n));
            plusses(x, 0, 3);
            for (int r = 0; r < 9; r++) {
                x.submit(0);
            }
            x.beat(1);
            for (int r = 0; r < 9; r++) {
                Ops.runs(x, r, Ops.THREAD, r < there ? r : -1);
                Due.is("count(" + (16 + r) + ")", r < there ? r : -1, x.count(16 + r));
            }
            Due.is("count(2)", there, x.count(2));
        }
    }

    private static void readyByNumbers() {
        Doc.says("(1) RUNS that are READY, by numbers: each comes to the least THREAD on which none is, if"
                + " there is one.");
        ErrandGuild x = Ops.guild();
        x.threads(3);
        plusses(x, 0, 9);
        plusses(x, 1, 1);
        int[] errands = {1, 0, 1, 0, 0, 0};
        for (int e : errands) {
            x.submit(e);
        }
        x.beat(2);
        // 0 and 2 have left the threads 0 and 2
        Due.is("thread 0", -1, x.count(16));
        Due.is("thread 1", 1, x.count(17));
        Due.is("thread 2", -1, x.count(18));
        x.beat(1);
        int[] threads = {-1, 1, -1, 0, 2, -1};
        for (int r = 0; r < threads.length; r++) {
            Ops.runs(x, r, Ops.THREAD, threads[r]);
        }
        Ops.runs(x, 5, Ops.STATE, Ops.READY);
        Ops.runs(x, 5, Ops.VISITS, 0);
    }

    private static void oneStepEach() {
        Doc.says("(2) RUNS that are ON a THREAD, by numbers, do one STEP each;");
        ErrandGuild x = Ops.guild();
        Ops.program(x, 0, Ops.HAND, 1, 1);
        plusses(x, 2, 9);
        x.submit(0);
        x.submit(2);
        x.beat(3);
        // run 2, on thread 0, has its turn behind run 1, on thread 1
        int[] order = {0, 257, 257, 512, 0, 257, -1};
        for (int i = 0; i < order.length; i++) {
            Due.is("order(" + i + ")", order[i], x.order(i));
        }
        Ops.runs(x, 1, Ops.SUM, 3);
        Due.is("count(10)", 6, x.count(10));
    }

    private static void whoLeavesItsThread() {
        Doc.says("who WAITS, is ENDED or FAILED leaves its THREAD.");
        ErrandGuild x = Ops.guild();
        x.threads(4);
        Ops.program(x, 0, Ops.HAND, 3, 1);
        Ops.program(x, 1, Ops.END, 0, 0);
        Ops.program(x, 2, Ops.THROW, 0, 0);
        plusses(x, 3, 5);
        for (int e = 0; e < 4; e++) {
            x.submit(e);
        }
        x.beat(1);
        int[] states = {Ops.WAITS, Ops.ENDED, Ops.FAILED, Ops.ON};
        for (int r = 0; r < 4; r++) {
            Ops.runs(x, r, Ops.STATE, states[r]);
            Ops.runs(x, r, Ops.THREAD, r == 3 ? 3 : -1);
            Due.is("thread " + r, r == 3 ? 3 : -1, x.count(16 + r));
            Ops.runs(x, r, Ops.VISITS, 1);
        }
    }

    private static void readyFromTheNextBeat() {
        Doc.says("A RUN that is given in or handed is READY (from the next BEAT on).");
        ErrandGuild x = Ops.guild();
        x.threads(6);
        Ops.program(x, 0, Ops.SPLIT, 1, 2);
        x.submit(0);
        Ops.runs(x, 0, Ops.STATE, Ops.READY);
        Ops.runs(x, 0, Ops.THREAD, -1);
        x.beat(1);
        for (int r = 1; r <= 2; r++) {
            Ops.runs(x, r, Ops.STATE, Ops.READY);
            Ops.runs(x, r, Ops.VISITS, 0);
        }
        Due.is("only the giver had a turn", 1, x.count(10));
        Due.is("submit", 3, x.submit(1));
        x.beat(1);
        for (int r = 1; r <= 3; r++) {
            Ops.runs(x, r, Ops.STATE, Ops.ENDED);
            Ops.runs(x, r, Ops.OVER, 2);
            Ops.runs(x, r, Ops.VISITS, 1);
        }
    }

    private static void leastNumberNotWhoWasReadyFirst() {
        ErrandGuild x = Ops.guild();
        x.threads(1);
        Ops.program(x, 0, Ops.HAND, 1, 1);
        x.submit(0);
        x.beat(1);
        for (int r = 2; r < 5; r++) {
            x.submit(1);
        }
        x.beat(1);
        Ops.runs(x, 1, Ops.STATE, Ops.ENDED);
        Ops.runs(x, 0, Ops.STATE, Ops.READY);
        x.beat(1);
        Ops.runs(x, 0, Ops.STATE, Ops.ON);
        Ops.runs(x, 2, Ops.STATE, Ops.READY);
    }

    private static void waitingBecomesReady() {
        Doc.says("(3) RUNS that WAIT, by numbers: if all that they WAIT for are ENDED or FAILED, they are READY.");
        ErrandGuild x = Ops.guild();
        x.threads(6);
        Ops.program(x, 0, Ops.HAND, 1, 0, Ops.HAND, 2, 0, Ops.HAND, 3, 0, Ops.GATHER, 0, 0);
        plusses(x, 1, 2);
        Ops.program(x, 2, Ops.PLUS, 0, 0, Ops.PLUS, 0, 0, Ops.THROW, 0, 0);
        plusses(x, 3, 2);
        x.submit(0);
        x.beat(4);
        // they are handed in beats 1, 2 and 3 and have three turns each from the next one on
        Ops.runs(x, 1, Ops.OVER, 4);
        Ops.runs(x, 0, Ops.STATE, Ops.WAITS);
        x.beat(1);
        Ops.runs(x, 2, Ops.OVER, 5);
        Ops.runs(x, 2, Ops.STATE, Ops.FAILED);
        Ops.runs(x, 0, Ops.STATE, Ops.WAITS);
        x.beat(1);
        Ops.runs(x, 3, Ops.OVER, 6);
        Ops.runs(x, 0, Ops.STATE, Ops.READY);
        Ops.runs(x, 0, Ops.PLACE, 3);
        Ops.runs(x, 0, Ops.VISITS, 1);
        x.beat(1);
        Ops.runs(x, 0, Ops.VISITS, 2);
    }

    private static void answersInPlaceOfAStep() {
        Doc.says("A RUN that was READY behind a WAIT, at its next turn, does this in place of a STEP (it stands at the"
                + " STEP that made it WAIT, whose place goes on by one):");
        ErrandGuild x = Ops.guild();
        Ops.program(x, 0, Ops.PLUS, 0, 0, Ops.HAND, 1, 1, Ops.PLUS, 0, 100);
        Ops.program(x, 1, Ops.PLUS, 0, 7);
        x.submit(0);
        x.beat(4);
        Ops.runs(x, 0, Ops.STATE, Ops.READY);
        Ops.runs(x, 0, Ops.PLACE, 1);
        Ops.runs(x, 0, Ops.SUM, 0);
        x.beat(1);
        Ops.runs(x, 0, Ops.STATE, Ops.ON);
        Ops.runs(x, 0, Ops.PLACE, 2);
        Ops.runs(x, 0, Ops.SUM, 7);
        Due.is("it is one turn", 5, x.count(10));
        x.beat(1);
        Ops.runs(x, 0, Ops.SUM, 107);
    }

    /** ERRANDS 1 to 4: an ANSWER of 1, FAILURE 2 with a SUM of 20, an ANSWER of 300, FAILURE 1 with 4000. */
    private static void writeChildren(ErrandGuild x) {
        Ops.program(x, 1, Ops.PLUS, 0, 1);
        Ops.program(x, 2, Ops.PLUS, 0, 20, Ops.THROW, 2, 0);
        Ops.program(x, 3, Ops.PLUS, 0, 300);
        Ops.program(x, 4, Ops.PLUS, 0, 4000, Ops.THROW, 1, 0);
    }

    private static void answersOfThoseThatAreFailedNot() {
        Doc.says("ANSWERS of those it waited for are added to SUM, those that are FAILED not;");
        ErrandGuild x = Ops.guild();
        writeChildren(x);
        Ops.program(x, 0, Ops.TRY, 2, 7, Ops.HAND, 1, 0, Ops.HAND, 2, 0, Ops.HAND, 3, 0, Ops.HAND, 4, 0,
                Ops.GATHER, 0, 0, Ops.END, 0, 0, Ops.PLUS, 0, 50000);
        x.submit(0);
        Ops.beatOut(x);
        Ops.runs(x, 0, Ops.STATE, Ops.ENDED);
        Ops.runs(x, 0, Ops.SUM, 50301);
    }

    private static void causeAndSuppressed() {
        Doc.says("if some are, the first by number FAILS the RUN at that STEP, too, with its KIND, that child being its"
                + " CAUSE; the others are SUPPRESSED (how many).");
        for (int failing = 0; failing <= 4; failing++) {
            ErrandGuild x = Ops.guild();
            writeChildren(x);
            Ops.program(x, 0, Ops.HAND, 1, 0);
            for (int i = 0; i < failing; i++) {
                Ops.program(x, 0, Ops.HAND, i == 0 ? 4 : 2, 0);
            }
            Ops.program(x, 0, Ops.HAND, 3, 0, Ops.GATHER, 0, 0);
            x.submit(0);
            Ops.beatOut(x);
            boolean isFailed = failing > 0;
            Ops.runs(x, 0, Ops.STATE, isFailed ? Ops.FAILED : Ops.ENDED);
            Ops.runs(x, 0, Ops.SUM, 301);
            int[] failure = {1, failing + 2, 2, failing - 1, 1};
            for (int what = 0; what < 5; what++) {
                Ops.fails(x, 0, what, isFailed ? failure[what] : -1);
            }
        }
        ErrandGuild x = Ops.guild();
        writeChildren(x);
        Ops.program(x, 0, Ops.HAND, 2, 1);
        x.submit(0);
        Ops.beatOut(x);
        int[] failure = {2, 0, 1, 0, 1};
        for (int what = 0; what < 5; what++) {
            Ops.fails(x, 0, what, failure[what]);
        }
    }

    private static void failureBehindAWaitIsCaught() {
        ErrandGuild x = Ops.guild();
        writeChildren(x);
        Ops.program(x, 0, Ops.BIND, 3, 1, Ops.TRY, 2, 6, Ops.BIND, 3, 2, Ops.SPLIT, 2, 2, Ops.GATHER, 0, 0,
                Ops.END, 0, 0, Ops.ADD, 3, 0, Ops.THROW, 0, 0);
        x.submit(0);
        Ops.beatOut(x);
        Ops.runs(x, 0, Ops.SUM, 1);
        // what was caught leaves no cause and no suppressed in what comes later
        int[] failure = {0, 7, -1, 0, 1};
        for (int what = 0; what < 5; what++) {
            Ops.fails(x, 0, what, failure[what]);
        }
        Ops.fails(x, 1, Ops.UNCAUGHT, 0);
        Ops.fails(x, 2, Ops.UNCAUGHT, 0);
    }

    private static void gatherAtOnce() {
        Doc.says("GATHER, if all these are ENDED or FAILED (or there are none), does this at once, without a WAIT.");
        ErrandGuild x = Ops.guild();
        writeChildren(x);
        Ops.program(x, 0, Ops.GATHER, 0, 0, Ops.HAND, 1, 0, Ops.PLUS, 0, 0, Ops.PLUS, 0, 0, Ops.GATHER, 0, 0,
                Ops.GATHER, 0, 0);
        x.submit(0);
        x.beat(1);
        Ops.runs(x, 0, Ops.PLACE, 1);
        Ops.runs(x, 0, Ops.STATE, Ops.ON);
        x.beat(4);
        Ops.runs(x, 0, Ops.PLACE, 5);
        Ops.runs(x, 0, Ops.SUM, 1);
        x.beat(1);
        Ops.runs(x, 0, Ops.PLACE, 6);
        Ops.runs(x, 0, Ops.SUM, 1);
        Ops.beatOut(x);
        Ops.runs(x, 0, Ops.VISITS, 1);
    }

    private static void gatherAtOnceWithFailures() {
        ErrandGuild x = Ops.guild();
        x.threads(6);
        writeChildren(x);
        Ops.program(x, 0, Ops.HAND, 2, 0, Ops.HAND, 1, 0, Ops.HAND, 4, 0, Ops.PLUS, 0, 0, Ops.PLUS, 0, 0,
                Ops.GATHER, 0, 0);
        x.submit(0);
        Due.is("beats", 6, x.beat(100));
        Ops.runs(x, 0, Ops.SUM, 1);
        Ops.runs(x, 0, Ops.VISITS, 1);
        int[] failure = {2, 5, 1, 1, 1};
        for (int what = 0; what < 5; what++) {
            Ops.fails(x, 0, what, failure[what]);
        }
        Ops.fails(x, 1, Ops.UNCAUGHT, 0);
        Ops.fails(x, 3, Ops.UNCAUGHT, 0);
    }

    private static void interruptInPlaceOfAStep() {
        Doc.says("AN INTERRUPT of a RUN (not ENDED, FAILED): at its next turn ON a THREAD it FAILS with 4, at the STEP"
                + " at which it stands, in place of that;");
        ErrandGuild x = Ops.guild();
        x.threads(1);
        Ops.program(x, 0, Ops.REMARK, 0, 1, Ops.REMARK, 0, 2);
        x.submit(0);
        x.submit(0);
        x.submit(0);
        Due.is("one that is ready", true, x.interrupt(0));
        x.beat(1);
        Due.is("its step was not done", 0, x.remark(0, 0));
        Ops.fails(x, 0, Ops.STEP, 0);
        x.beat(1);
        Due.is("one that is on a thread", true, x.interrupt(1));
        Ops.runs(x, 1, Ops.STATE, Ops.ON);
        x.beat(1);
        Ops.fails(x, 1, Ops.STEP, 1);
        Due.is("its step was not done", 0, x.remark(1, 1));
        x.beat(2);
        Due.is("one that stands behind the last", true, x.interrupt(2));
        x.beat(1);
        Ops.fails(x, 2, Ops.STEP, 2);
        for (int r = 0; r < 3; r++) {
            Ops.fails(x, r, Ops.KIND, Ops.INTERRUPTED);
            Ops.fails(x, r, Ops.CAUSE, -1);
            Due.is("one that is failed", false, x.interrupt(r));
        }
        Due.is("each was a turn", 6, x.count(10));
        x.submit(7);
        x.beat(1);
        Due.is("one that is ended", false, x.interrupt(3));
    }

    private static void interruptOfOneThatWaits() {
        Doc.says("if it WAITS it is READY at once (and WAITS for these no more;");
        ErrandGuild x = Ops.guild();
        Ops.program(x, 0, Ops.PLUS, 0, 0, Ops.HAND, 1, 1, Ops.PLUS, 0, 1);
        plusses(x, 1, 9);
        x.submit(0);
        x.beat(3);
        Ops.runs(x, 0, Ops.STATE, Ops.WAITS);
        Due.is("interrupt(0)", true, x.interrupt(0));
        Ops.runs(x, 0, Ops.STATE, Ops.READY);
        Due.is("count(3)", 1, x.count(3));
        Due.is("count(5)", 0, x.count(5));
        x.beat(1);
        Ops.fails(x, 0, Ops.KIND, Ops.INTERRUPTED);
        Ops.fails(x, 0, Ops.STEP, 1);
        Ops.fails(x, 0, Ops.CAUSE, -1);
        Ops.runs(x, 0, Ops.OVER, 4);
        Ops.runs(x, 1, Ops.STATE, Ops.ON);
        Ops.beatOut(x);
        Ops.runs(x, 0, Ops.SUM, 0);
        Ops.runs(x, 1, Ops.SUM, 9);
    }

    private static void interruptedCountAsWaitedFor() {
        Doc.says("they count as waited for).");
        ErrandGuild x = Ops.guild();
        x.threads(6);
        x.handler(2, 0, 1, false);
        Ops.program(x, 0, Ops.TRY, 4, 4, Ops.SPLIT, 1, 2, Ops.GATHER, 0, 0, Ops.END, 0, 0, Ops.HAND, 2, 0,
                Ops.GATHER, 0, 0);
        plusses(x, 1, 6);
        Ops.program(x, 1, Ops.THROW, 0, 0);
        Ops.program(x, 2, Ops.PLUS, 0, 70);
        x.submit(0);
        x.beat(3);
        x.interrupt(0);
        Ops.beatOut(x);
        // the gather behind it takes the third child alone
        Ops.runs(x, 0, Ops.STATE, Ops.ENDED);
        Ops.runs(x, 0, Ops.SUM, 70);
        Ops.fails(x, 1, Ops.UNCAUGHT, 0);
        Ops.fails(x, 2, Ops.UNCAUGHT, 0);
        Due.is("none was asked", 0, x.count(9));
    }

    private static void interruptedWhileReadyBehindAWait() {
        ErrandGuild x = Ops.guild();
        x.threads(1);
        Ops.program(x, 0, Ops.TRY, 4, 3, Ops.HAND, 1, 1, Ops.END, 0, 0, Ops.PLUS, 0, 5, Ops.GATHER, 0, 0);
        Ops.program(x, 1, Ops.PLUS, 0, 70, Ops.THROW, 0, 0);
        x.submit(0);
        x.beat(4);
        Ops.runs(x, 0, Ops.STATE, Ops.READY);
        Ops.runs(x, 1, Ops.STATE, Ops.FAILED);
        Due.is("interrupt(0)", true, x.interrupt(0));
        x.beat(1);
        Ops.runs(x, 0, Ops.STATE, Ops.ON);
        Ops.runs(x, 0, Ops.PLACE, 3);
        Ops.beatOut(x);
        Ops.runs(x, 0, Ops.STATE, Ops.ENDED);
        Ops.runs(x, 0, Ops.SUM, 5);
        Ops.fails(x, 1, Ops.UNCAUGHT, 0);
    }

    private static void interruptNoticedOnce() {
        Doc.says("It is noticed once.");
        ErrandGuild x = Ops.guild();
        Ops.program(x, 0, Ops.TRY, 4, 2, Ops.PLUS, 0, 1, Ops.TRY, 4, 5, Ops.PLUS, 0, 10, Ops.PLUS, 0, 100,
                Ops.PLUS, 0, 1000);
        x.submit(0);
        x.beat(1);
        Due.is("the first", true, x.interrupt(0));
        Due.is("a second that comes too soon", false, x.interrupt(0));
        x.beat(3);
        Ops.runs(x, 0, Ops.PLACE, 4);
        Ops.runs(x, 0, Ops.SUM, 10);
        Due.is("a second", true, x.interrupt(0));
        x.beat(1);
        Ops.runs(x, 0, Ops.PLACE, 5);
        Ops.beatOut(x);
        Ops.runs(x, 0, Ops.STATE, Ops.ENDED);
        Ops.runs(x, 0, Ops.SUM, 1010);
    }

    private static void uncaughtWithoutAGiver() {
        Doc.says("UNCAUGHT: a FAILED RUN without a GIVER,");
        ErrandGuild x = Ops.guild();
        x.handler(2, 0, 1, false);
        Ops.program(x, 0, Ops.THROW, 0, 0);
        x.submit(0);
        Due.is("count(9)", 0, x.count(9));
        x.beat(1);
        Ops.fails(x, 0, Ops.UNCAUGHT, 1);
        Due.is("count(9)", 1, x.count(9));
        Due.is("handled(0, 0)", 0, x.handled(0, 0));
    }

    private static void uncaughtAtTheGiversEnd() {
        Doc.says("or whose GIVER is ENDED or FAILED without having waited for or gathered it (at that time,");
        for (int op : new int[] {Ops.END, Ops.THROW, Ops.PLUS}) {
            ErrandGuild x = Ops.guild();
            x.handler(0, 1, 1, false);
            Ops.program(x, 0, Ops.HAND, 1, 0, Ops.PLUS, 0, 0, op, 0, 0);
            Ops.program(x, 1, Ops.THROW, 1, 0);
            x.submit(0);
            x.beat(2);
            Ops.runs(x, 1, Ops.STATE, Ops.FAILED);
            Ops.fails(x, 1, Ops.UNCAUGHT, 0);
            Due.is("count(9)", 0, x.count(9));
            x.beat(op == Ops.PLUS ? 2 : 1);
            Ops.runs(x, 0, Ops.OVER, op == Ops.PLUS ? 4 : 3);
            Ops.fails(x, 1, Ops.UNCAUGHT, 1);
            Due.is("count(9)", 1, x.count(9));
        }
    }

    private static void uncaughtBehindTheGiversEnd() {
        Doc.says("or when it FAILS behind that).");
        for (int op : new int[] {Ops.END, Ops.THROW}) {
            for (int turns = 0; turns < 4; turns++) {
                ErrandGuild x = Ops.guild();
                x.handler(0, 1, 1, false);
                Ops.program(x, 0, Ops.HAND, 1, 0, op, 0, 0);
                plusses(x, 1, turns);
                Ops.program(x, 1, Ops.THROW, 1, 0);
                x.submit(0);
                x.beat(1 + turns);
                Due.is("count(9)", 0, x.count(9));
                x.beat(1);
                Ops.runs(x, 0, Ops.OVER, 2);
                Ops.runs(x, 1, Ops.OVER, 2 + turns);
                Ops.fails(x, 1, Ops.UNCAUGHT, 1);
                Due.is("count(9)", 1, x.count(9));
            }
        }
    }

    private static void uncaughtByNumbersBehindTheGiver() {
        Doc.says("by numbers, behind the GIVER itself;");
        ErrandGuild x = Ops.guild();
        x.threads(6);
        x.handler(2, 0, 1, false);
        // 1 fails last, 2 and 3 before; 4 is waited for; 5 has ended
        Ops.program(x, 0, Ops.HAND, 1, 0, Ops.SPLIT, 2, 2, Ops.TRY, 8, 4, Ops.HAND, 2, 1, Ops.HAND, 3, 0,
                Ops.PLUS, 0, 0, Ops.PLUS, 0, 0, Ops.THROW, 3, 0);
        plusses(x, 1, 5);
        Ops.program(x, 1, Ops.THROW, 1, 0);
        Ops.program(x, 2, Ops.THROW, 2, 0);
        x.submit(0);
        Ops.beatOut(x);
        int[] asked = {0, 1, 2, 3, -1};
        for (int i = 0; i < asked.length; i++) {
            Due.is("handled(" + i + ", 0)", asked[i], x.handled(i, 0));
        }
        Ops.fails(x, 4, Ops.UNCAUGHT, 0);
        Ops.fails(x, 5, Ops.UNCAUGHT, -1);
    }

    private static void caughtByAWaitOrAGather() {
        Doc.says("without having waited for or gathered it");
        ErrandGuild x = Ops.guild();
        x.handler(2, 0, 1, false);
        Ops.program(x, 0, Ops.TRY, 8, 3, Ops.HAND, 2, 1, Ops.END, 0, 0, Ops.PLUS, 0, 1);
        Ops.program(x, 1, Ops.TRY, 8, 4, Ops.SPLIT, 2, 2, Ops.GATHER, 0, 0, Ops.END, 0, 0, Ops.PLUS, 0, 1);
        Ops.program(x, 2, Ops.THROW, 2, 0);
        Ops.program(x, 3, Ops.HAND, 2, 1);
        for (int e : new int[] {0, 1, 3}) {
            x.submit(e);
        }
        Ops.beatOut(x);
        Due.is("count(7)", 5, x.count(7));
        for (int r = 3; r < x.count(0); r++) {
            Ops.fails(x, r, Ops.KIND, 2);
            Ops.fails(x, r, Ops.UNCAUGHT, 0);
        }
        // run 2 is a root and failed by its child: it alone is uncaught
        Ops.fails(x, 2, Ops.UNCAUGHT, 1);
        Due.is("count(9)", 1, x.count(9));
        Due.is("handled(0, 0)", 2, x.handled(0, 0));
    }

    private static void handlersAsked() {
        Doc.says("HANDLERS: of an ERRAND, of a KIND, of the office, each with an effect, throwing or not: asked in this"
                + " order, those that there are, for the RUN's ERRAND and KIND, till one does not throw; each that was"
                + " asked is told.");
        for (int throwing = 0; throwing < 8; throwing++) {
            ErrandGuild x = Ops.guild();
            Ops.program(x, 6, Ops.THROW, 2, 0);
            x.handler(2, 0, 30, (throwing & 4) != 0);
            x.handler(1, 2, 20, (throwing & 2) != 0);
            x.handler(0, 6, 10, (throwing & 1) != 0);
            x.submit(6);
            x.beat(1);
            int asked = (throwing & 1) == 0 ? 1 : (throwing & 2) == 0 ? 2 : 3;
            Due.is("count(9)", asked, x.count(9));
            for (int level = 0; level < 3; level++) {
                boolean isTold = level < asked;
                int[] row = {0, level, 10 * (level + 1), (throwing >> level) & 1};
                for (int what = 0; what < 4; what++) {
                    Due.is("handled(" + level + ", " + what + ")", isTold ? row[what] : -1, x.handled(level, what));
                }
            }
        }
    }

    private static void handlersThatThereAre() {
        for (int there = 0; there < 8; there++) {
            ErrandGuild x = Ops.guild();
            Ops.program(x, 6, Ops.THROW, 2, 0);
            // these are of another errand and of another kind
            x.handler(0, 2, 77, false);
            x.handler(1, 6, 77, false);
            int[] of = {6, 2, 0};
            int asked = 0;
            for (int level = 0; level < 3; level++) {
                if ((there >> level & 1) == 1) {
                    x.handler(level, of[level], 10 + level, true);
                }
            }
            x.submit(6);
            x.beat(1);
            for (int level = 0; level < 3; level++) {
                if ((there >> level & 1) == 1) {
                    Due.is("handled(" + asked + ", 1)", level, x.handled(asked, 1));
                    Due.is("handled(" + asked + ", 2)", 10 + level, x.handled(asked, 2));
                    asked++;
                }
            }
            Due.is("count(9)", asked, x.count(9));
            Ops.fails(x, 0, Ops.UNCAUGHT, 1);
        }
    }

    private static void memoryIsTheOfficesOwn() {
        Doc.says("All memory is the office's own.");
        ErrandGuild x = Ops.guild();
        ErrandGuild y = new ErrandGuild();
        Ops.program(x, 0, Ops.WRITE, 2, 5, Ops.REMARK, 0, 6, Ops.ADD, 2, 0, Ops.THROW, 0, 0);
        x.handler(2, 0, 1, false);
        x.threads(5);
        x.submit(0);
        Ops.beatOut(x);
        for (int what = 0; what <= 10; what++) {
            Due.is("count(" + what + ") of another object", what == 2 ? 2 : 0, y.count(what));
        }
        Due.is("step of another object", 1, y.step(0, Ops.THROW, 0, 0));
        Due.is("submit", 0, y.submit(0));
        Due.is("value in another object", 0, y.value(0, 2));
        Ops.beatOut(y);
        Due.is("no handler of another object is asked", 0, y.count(9));
        Due.is("remark", 0, y.remark(0, 0));
        y.anew(true);
        Due.is("the first object keeps its runs", 1, x.count(0));
        Due.is("and its remarks", 6, x.remark(0, 0));
    }
}
