import java.util.function.IntUnaryOperator;

/** The edges that promises 11 to 20 name: what is asked of RUNS, FAILURES, readings and counts. */
public final class AskEdgesTest {
    private static final int MIN = Integer.MIN_VALUE;
    private static final int MAX = Integer.MAX_VALUE;

    public static void main(String[] args) {
        runThatIsReady();
        runThroughItsStates();
        runAnswerThatIsNone();
        runOthers();
        failureOfAFailedRun();
        failureOthers();
        traceOfAllDepths();
        traceOthers();
        childInOrder();
        childOthers();
        valueNow();
        valueOthers();
        seenRows();
        seenOthers();
        seenThousand();
        remarks();
        handledRows();
        handledOthers();
        orderRows();
        orderTwoThousand();
        countOfStates();
        countThreads();
        countOthers();
        Due.close("AskEdgesTest");
    }

    private static void rows(String call, int[] want, IntUnaryOperator got) {
        for (int i = 0; i < want.length; i++) {
            Due.is(call + " " + i, want[i], got.applyAsInt(i));
        }
    }

    private static void runThatIsReady() {
        Doc.says("Of RUN r, what 0: 0 READY,");
        ErrandGuild x = Ops.guild();
        x.submit(0);
        x.submit(7);
        rows("run of a new one", new int[] {0, 7, -1, 1, 0, -1, 0, 0, 0, 0, -1, 0, 0}, what -> x.run(1, what));
    }

    private static void runThroughItsStates() {
        Doc.says("1 ON a THREAD, 2 WAITS, 3 ENDED, 4 FAILED; 1 ERRAND, 2 GIVER (NONE), 3 ROOT, 4 DEPTH, 5"
                + " THREAD (NONE),"
                + " 6 SUM (ENDED: ANSWER), 7 place, 8 open BINDINGS, 9 open TRIES, 10 BEAT in which it was ENDED or"
                + " FAILED (NONE; the first BEAT is 1), 11 children, 12 how often it came to a THREAD.");
        ErrandGuild x = Ops.guild();
        Ops.program(x, 3, Ops.BIND, 3, 1, Ops.TRY, 0, 5, Ops.PLUS, 0, 4, Ops.HAND, 5, 1);
        Ops.program(x, 5, Ops.BIND, 3, 1, Ops.BIND, 3, 2, Ops.TRY, 0, 9, Ops.THROW, 1, 0);
        Ops.program(x, 6, Ops.THROW, 2, 0);
        x.submit(7);
        x.submit(3);
        x.submit(6);
        x.beat(1);
        rows("ended in beat 1", new int[] {3, 7, -1, 0, 0, -1, 0, 0, 0, 0, 1, 0, 1}, what -> x.run(0, what));
        rows("on thread 1", new int[] {1, 3, -1, 1, 0, 1, 0, 1, 1, 0, -1, 0, 1}, what -> x.run(1, what));
        x.beat(1);
        rows("failed in beat 2", new int[] {4, 6, -1, 2, 0, -1, 0, 0, 0, 0, 2, 0, 1}, what -> x.run(2, what));
        x.beat(2);
        rows("waits", new int[] {2, 3, -1, 1, 0, -1, 4, 3, 1, 1, -1, 1, 1}, what -> x.run(1, what));
        rows("handed", new int[] {0, 5, 1, 1, 1, -1, 0, 0, 0, 0, -1, 0, 0}, what -> x.run(3, what));
        x.beat(3);
        rows("with scopes", new int[] {1, 5, 1, 1, 1, 0, 0, 3, 2, 1, -1, 0, 1}, what -> x.run(3, what));
        Ops.beatOut(x);
        rows("failed by a child", new int[] {4, 3, -1, 1, 0, -1, 4, 3, 0, 1, 9, 1, 2}, what -> x.run(1, what));
        rows("failed", new int[] {4, 5, 1, 1, 1, -1, 0, 3, 0, 1, 8, 0, 1}, what -> x.run(3, what));
    }

    private static void runAnswerThatIsNone() {
        Doc.says("6 SUM (ENDED: ANSWER),");
        ErrandGuild x = Ops.guild();
        Ops.program(x, 0, Ops.PLUS, 0, -1);
        x.submit(0);
        Ops.beatOut(x);
        Ops.runs(x, 0, Ops.SUM, -1);
        Ops.runs(x, 0, Ops.STATE, Ops.ENDED);
    }

    private static void runOthers() {
        Doc.says("12 how often it came to a THREAD. NONE for others.");
        ErrandGuild x = Ops.guild();
        for (int what = -1; what <= 13; what++) {
            Ops.runs(x, 0, what, -1);
        }
        x.submit(0);
        for (int what : new int[] {MIN, -1, 13, 16, MAX}) {
            Ops.runs(x, 0, what, -1);
        }
        for (int r : new int[] {MIN, -1, 1, 199, 200, MAX}) {
            for (int what = -1; what <= 13; what++) {
                Ops.runs(x, r, what, -1);
            }
        }
    }

    private static void failureOfAFailedRun() {
        Doc.says("Of its FAILURE, what 0 KIND, 1 STEP, 2 CAUSE (a RUN; NONE), 3 SUPPRESSED, 4 whether it was"
                + " UNCAUGHT;");
        ErrandGuild x = Ops.guild();
        Ops.program(x, 0, Ops.SPLIT, 1, 3, Ops.GATHER, 0, 0);
        Ops.program(x, 1, Ops.PLUS, 0, 0, Ops.THROW, 3, 0);
        x.submit(0);
        Ops.beatOut(x);
        rows("failure of the giver", new int[] {3, 1, 1, 2, 1, -1}, what -> x.failure(0, what));
        for (int c = 1; c <= 3; c++) {
            int child = c;
            rows("failure of a child", new int[] {3, 1, -1, 0, 0, -1}, what -> x.failure(child, what));
        }
    }

    private static void failureOthers() {
        Doc.says("NONE for others, or if it is not FAILED.");
        ErrandGuild x = Ops.guild();
        Ops.program(x, 0, Ops.TRY, 8, 3, Ops.THROW, 1, 0, Ops.END, 0, 0, Ops.HAND, 7, 1);
        Ops.program(x, 1, Ops.THROW, 1, 0);
        x.threads(1);
        x.submit(0);
        x.submit(1);
        for (int beats = 0; beats < 6; beats++) {
            // ready, on a thread, with a failure that was caught, waiting, and ready again
            for (int what = -1; what <= 5; what++) {
                Ops.fails(x, 0, what, -1);
            }
            Due.is("trace", -1, x.trace(0, 0));
            x.beat(1);
        }
        Ops.beatOut(x);
        Ops.runs(x, 0, Ops.STATE, Ops.ENDED);
        Ops.fails(x, 0, Ops.KIND, -1);
        Ops.fails(x, 1, Ops.KIND, 1);
        for (int what : new int[] {MIN, -1, 5, MAX}) {
            Ops.fails(x, 1, what, -1);
        }
        for (int r : new int[] {MIN, -1, 3, 200, MAX}) {
            Ops.fails(x, r, 0, -1);
        }
    }

    private static void traceOfAllDepths() {
        Doc.says("Line i of its TRACE: 0: its ERRAND and STEP (32 times the ERRAND and the STEP); then of its"
                + " GIVER, and"
                + " so on, with the STEP at which they handed.");
        ErrandGuild x = Ops.guild();
        for (int e = 1; e < 7; e++) {
            for (int i = 0; i < e; i++) {
                x.step(e, Ops.PLUS, 0, 0);
            }
            Ops.program(x, e, Ops.HAND, e + 1, 0, Ops.PLUS, 0, 0, Ops.GATHER, 0, 0);
        }
        for (int i = 0; i < 23; i++) {
            x.step(7, Ops.PLUS, 0, 0);
        }
        Ops.program(x, 7, Ops.THROW, 0, 0);
        x.submit(1);
        Ops.beatOut(x);
        for (int depth = 0; depth <= 6; depth++) {
            int errand = depth + 1;
            int step = errand == 7 ? 23 : errand + 2;
            Due.is("its own line", 32 * errand + step, x.trace(depth, 0));
            for (int i = 1; i <= depth; i++) {
                Due.is("line " + i + " of " + depth, 33 * (errand - i), x.trace(depth, i));
            }
            Due.is("behind the last line", -1, x.trace(depth, depth + 1));
        }
    }

    private static void traceOthers() {
        Doc.says("with the STEP at which they handed. NONE for others, or if it is not FAILED.");
        ErrandGuild x = Ops.guild();
        Ops.program(x, 0, Ops.HAND, 1, 0, Ops.HAND, 2, 0);
        Ops.program(x, 1, Ops.THROW, 0, 0);
        x.submit(0);
        Due.is("not failed yet", -1, x.trace(0, 0));
        Ops.beatOut(x);
        rows("trace", new int[] {32, 0, -1, -1}, i -> x.trace(1, i));
        Due.is("the giver is ended", -1, x.trace(0, 0));
        Due.is("the other child is ended", -1, x.trace(2, 0));
        for (int i : new int[] {MIN, -1, 2, 7, MAX}) {
            Due.is("trace(1, " + i + ")", -1, x.trace(1, i));
        }
        for (int r : new int[] {MIN, -1, 3, 200, MAX}) {
            Due.is("trace(" + r + ", 0)", -1, x.trace(r, 0));
        }
        ErrandGuild y = Ops.guild();
        y.submit(0);
        y.interrupt(0);
        y.beat(1);
        Due.is("errand 0 at step 0", 0, y.trace(0, 0));
    }

    private static void childInOrder() {
        Doc.says("Child i of RUN r, in order of handing;");
        ErrandGuild x = Ops.guild();
        Ops.program(x, 0, Ops.HAND, 2, 0, Ops.SPLIT, 1, 4, Ops.HAND, 2, 1);
        x.submit(0);
        x.submit(0);
        Ops.beatOut(x);
        rows("child of 0", new int[] {2, 4, 5, 6, 7, 12, -1}, i -> x.child(0, i));
        rows("child of 1", new int[] {3, 8, 9, 10, 11, 13, -1}, i -> x.child(1, i));
        Ops.runs(x, 0, Ops.CHILDREN, 6);
    }

    private static void childOthers() {
        Doc.says("in order of handing; NONE for others.");
        ErrandGuild x = Ops.guild();
        Ops.program(x, 0, Ops.HAND, 1, 0);
        x.submit(0);
        Due.is("before it hands", -1, x.child(0, 0));
        x.beat(1);
        Due.is("behind it", 1, x.child(0, 0));
        for (int i : new int[] {MIN, -1, 1, 200, MAX}) {
            Due.is("child(0, " + i + ")", -1, x.child(0, i));
        }
        for (int r : new int[] {MIN, -1, 2, 200, MAX}) {
            Due.is("child(" + r + ", 0)", -1, x.child(r, 0));
        }
        Due.is("of one without children", -1, x.child(1, 0));
    }

    private static void valueNow() {
        Doc.says("What SLOT s READS in RUN r now;");
        ErrandGuild x = Ops.guild();
        Ops.program(x, 0, Ops.WRITE, 0, 1, Ops.WRITE, 1, 2, Ops.WRITE, 2, 3, Ops.BIND, 3, 4, Ops.WRITE, 4, 5);
        x.submit(0);
        int[] now = {10, 11, 12, 13, 14};
        for (int s = 0; s < 5; s++) {
            rows("value before step " + s, now, slot -> x.value(0, slot));
            x.beat(1);
            now[s] = s + 1;
        }
        rows("value on the thread", now, slot -> x.value(0, slot));
        Due.is("it is no reading", 0, x.count(8));
        x.beat(1);
        rows("value of one that is ended", new int[] {10, 2, 3, 13, 5}, slot -> x.value(0, slot));
    }

    private static void valueOthers() {
        Doc.says("0: no such ones.");
        ErrandGuild x = Ops.guild();
        Due.is("no run yet", 0, x.value(0, 0));
        x.submit(0);
        for (int s : new int[] {MIN, -1, 8, MAX}) {
            Due.is("value(0, " + s + ")", 0, x.value(0, s));
        }
        for (int r : new int[] {MIN, -1, 1, 200, MAX}) {
            Due.is("value(" + r + ", 0)", 0, x.value(r, 0));
        }
        Due.is("value(0, 0)", 10, x.value(0, 0));
    }

    private static void seenRows() {
        Doc.says("The i-th reading of all (by ADD), what 0 RUN, 1 SLOT, 2 value, 3 STEP;");
        ErrandGuild x = Ops.guild();
        Ops.program(x, 0, Ops.PLUS, 0, 0, Ops.ADD, 4, 0, Ops.HAND, 1, 1, Ops.ADD, 0, 0);
        Ops.program(x, 1, Ops.ADD, 1, 0);
        x.submit(0);
        Due.is("none yet", -1, x.seen(0, 0));
        Ops.beatOut(x);
        rows("seen(0)", new int[] {0, 4, 14, 1, -1}, what -> x.seen(0, what));
        rows("seen(1)", new int[] {1, 1, 11, 0, -1}, what -> x.seen(1, what));
        rows("seen(2)", new int[] {0, 0, 10, 3, -1}, what -> x.seen(2, what));
        rows("seen(3)", new int[] {-1, -1, -1, -1, -1}, what -> x.seen(3, what));
    }

    private static void seenOthers() {
        Doc.says("3 STEP; NONE for others (2 can be that).");
        ErrandGuild x = Ops.guild();
        x.first(4, -1);
        Ops.program(x, 0, Ops.ADD, 4, 0);
        x.submit(0);
        Ops.beatOut(x);
        rows("a value of -1", new int[] {0, 4, -1, 0}, what -> x.seen(0, what));
        for (int what : new int[] {MIN, -1, 4, MAX}) {
            Due.is("seen(0, " + what + ")", -1, x.seen(0, what));
        }
        // some of these would wrap into the rows that are there if they were taken times four
        for (int i : new int[] {MIN, -1, 1, 1000, 1 << 30, -1 << 30, MAX}) {
            Due.is("seen(" + i + ", 0)", -1, x.seen(i, 0));
        }
        Due.is("count(8)", 1, x.count(8));
    }

    private static void seenThousand() {
        Doc.says("1000 are told.");
        ErrandGuild x = Ops.guild();
        x.threads(1);
        for (int i = 0; i < 20; i++) {
            x.step(0, Ops.ADD, 4, 0);
        }
        Ops.program(x, 1, Ops.ADD, 1, 0);
        for (int r = 0; r < 49; r++) {
            x.submit(0);
        }
        Ops.beatOut(x);
        for (int told = 980; told <= 1003; told++) {
            Due.is("count(8)", told, x.count(8));
            int[] last = {49 + told - 981, 1, 11, 0};
            for (int what = 0; what < 4 && told > 980; what++) {
                Due.is("seen of the last", told <= 1000 ? last[what] : -1, x.seen(told - 1, what));
            }
            Due.is("seen behind the last", -1, x.seen(told, 0));
            x.submit(1);
            x.beat(2);
        }
        rows("seen(999) stays", new int[] {68, 1, 11, 0}, what -> x.seen(999, what));
        rows("seen(0) stays", new int[] {0, 4, 14, 0}, what -> x.seen(0, what));
        x.anew(false);
        Due.is("seen behind anew", -1, x.seen(0, 0));
        x.submit(1);
        x.beat(1);
        rows("the first of the next", new int[] {0, 1, 11, 0}, what -> x.seen(0, what));
    }

    private static void remarks() {
        Doc.says("The i-th remark of a ROOT; 0 if there is none.");
        ErrandGuild x = Ops.guild();
        Ops.program(x, 0, Ops.HAND, 1, 1);
        Ops.program(x, 1, Ops.REMARK, 0, 7, Ops.REMARK, 0, -1);
        Due.is("no run yet", 0, x.remark(0, 0));
        x.submit(0);
        Due.is("no remark yet", 0, x.remark(0, 0));
        Ops.beatOut(x);
        rows("remark", new int[] {7, -1, 0, 0}, i -> x.remark(0, i));
        for (int i : new int[] {MIN, -1, 2, 15, 16, 17, MAX}) {
            Due.is("remark(0, " + i + ")", 0, x.remark(0, i));
        }
        Due.is("of a run that is no root", 0, x.remark(1, 0));
        for (int r : new int[] {MIN, -1, 2, 200, MAX}) {
            Due.is("remark(" + r + ", 0)", 0, x.remark(r, 0));
        }
    }

    private static void handledRows() {
        Doc.says("The i-th that was asked of HANDLERS, what 0 RUN, 1 level, 2 effect, 3 whether it threw.");
        ErrandGuild x = Ops.guild();
        Ops.program(x, 0, Ops.THROW, 3, 0);
        x.handler(0, 0, 10, true);
        x.handler(1, 3, 20, true);
        x.handler(2, 0, 30, true);
        Due.is("none yet", -1, x.handled(0, 0));
        x.submit(7);
        x.submit(0);
        Ops.beatOut(x);
        for (int i = 0; i < 3; i++) {
            int level = i;
            rows("handled", new int[] {1, level, 10 + 10 * level, 1, -1}, what -> x.handled(level, what));
        }
        x.handler(1, 3, 21, false);
        x.submit(0);
        Ops.beatOut(x);
        rows("handled(3)", new int[] {2, 0, 10, 1}, what -> x.handled(3, what));
        rows("handled(4)", new int[] {2, 1, 21, 0}, what -> x.handled(4, what));
        Due.is("count(9)", 5, x.count(9));
    }

    private static void handledOthers() {
        Doc.says("3 whether it threw. NONE for others (2 can be that).");
        ErrandGuild x = Ops.guild();
        Ops.program(x, 0, Ops.THROW, 3, 0);
        x.handler(2, 0, -1, false);
        x.submit(0);
        Ops.beatOut(x);
        rows("an effect of -1", new int[] {0, 2, -1, 0}, what -> x.handled(0, what));
        for (int what : new int[] {MIN, -1, 4, MAX}) {
            Due.is("handled(0, " + what + ")", -1, x.handled(0, what));
        }
        for (int i : new int[] {MIN, -1, 1, 600, 1 << 30, -1 << 30, MAX}) {
            Due.is("handled(" + i + ", 0)", -1, x.handled(i, 0));
        }
        Due.is("count(9)", 1, x.count(9));
    }

    private static void orderRows() {
        Doc.says("The i-th STEP (or what is in place of one) of all: 256 times the RUN and the THREAD;");
        ErrandGuild x = Ops.guild();
        x.threads(6);
        // a hand, an answer taken, an end, a failed step, an interrupt, and an end behind the last step
        Ops.program(x, 0, Ops.HAND, 1, 1);
        Ops.program(x, 2, Ops.THROW, 0, 0);
        x.submit(0);
        for (int r = 1; r < 5; r++) {
            x.submit(2);
        }
        x.submit(3);
        x.interrupt(4);
        Ops.beatOut(x);
        rows("order", new int[] {0, 257, 514, 771, 1028, 1285, 1536, 0, 0, -1}, i -> x.order(i));
        Due.is("count(10)", 9, x.count(10));
    }

    private static void orderTwoThousand() {
        Doc.says("NONE: there is none such, of the first 2000.");
        ErrandGuild x = Ops.guild();
        x.threads(1);
        for (int i = 0; i < 19; i++) {
            x.step(0, Ops.PLUS, 0, 1);
        }
        for (int r = 0; r < 99; r++) {
            x.submit(0);
        }
        Due.is("none yet", -1, x.order(0));
        Ops.beatOut(x);
        Due.is("count(10)", 1980, x.count(10));
        for (int turns = 1980; turns <= 2004; turns++) {
            Due.is("count(10)", turns, x.count(10));
            int last = 256 * (99 + turns - 1981);
            Due.is("the last", turns == 1980 ? 256 * 98 : turns <= 2000 ? last : -1, x.order(turns - 1));
            Due.is("behind the last", -1, x.order(turns));
            x.submit(7);
            x.beat(1);
        }
        Due.is("order(1999)", 256 * 118, x.order(1999));
        Due.is("order(0)", 0, x.order(0));
        for (int i : new int[] {MIN, -1, 2000, 2003, 1 << 30, MAX}) {
            Due.is("order(" + i + ")", -1, x.order(i));
        }
    }

    private static void countOfStates() {
        Doc.says("0 RUNS, 1 BEATS, 2 THREADS, 3 READY, 4 ON THREADS, 5 WAIT, 6 ENDED, 7 FAILED, 8 readings"
                + " (all), 9 asked"
                + " HANDLERS, 10 STEPS (all),");
        ErrandGuild x = Ops.guild();
        x.handler(2, 0, 1, true);
        x.threads(5);
        Ops.program(x, 0, Ops.HAND, 1, 1);
        Ops.program(x, 1, Ops.ADD, 0, 0, Ops.ADD, 0, 0, Ops.ADD, 0, 0);
        Ops.program(x, 2, Ops.THROW, 0, 0);
        for (int e : new int[] {0, 1, 2, 3, 1, 2, 1}) {
            x.submit(e);
        }
        rows("count at first", new int[] {7, 0, 5, 7, 0, 0, 0, 0, 0, 0, 0}, x::count);
        x.beat(1);
        rows("behind a beat", new int[] {8, 1, 5, 3, 2, 1, 1, 1, 2, 1, 5}, x::count);
        x.beat(1);
        rows("behind two", new int[] {8, 2, 5, 0, 4, 1, 1, 2, 6, 2, 10}, x::count);
        Ops.beatOut(x);
        rows("at last", new int[] {8, 7, 5, 0, 0, 0, 6, 2, 12, 2, 22}, x::count);
    }

    private static void countThreads() {
        Doc.says("16 + t the RUN on THREAD t (NONE).");
        for (int n = 1; n <= 6; n++) {
            ErrandGuild x = Ops.guild();
            x.threads(n);
            Ops.program(x, 0, Ops.PLUS, 0, 1);
            x.submit(7);
            for (int r = 1; r < 4; r++) {
                x.submit(0);
            }
            for (int t = 0; t < 8; t++) {
                Due.is("no thread has one yet", -1, x.count(16 + t));
            }
            x.beat(1);
            for (int t = 0; t < 8; t++) {
                boolean isTaken = t > 0 && t < n && t < 4;
                Due.is(n + " threads, count(" + (16 + t) + ")", isTaken ? t : -1, x.count(16 + t));
            }
        }
    }

    private static void countOthers() {
        Doc.says("16 + t the RUN on THREAD t (NONE). NONE for others.");
        ErrandGuild x = Ops.guild();
        x.threads(6);
        Ops.program(x, 0, Ops.PLUS, 0, 1);
        for (int r = 0; r < 6; r++) {
            x.submit(0);
        }
        x.beat(1);
        for (int what : new int[] {MIN, -17, -16, -1, 11, 12, 13, 14, 15, 22, 23, 32, MAX}) {
            Due.is("count(" + what + ")", -1, x.count(what));
        }
        Due.is("count(16)", 0, x.count(16));
        Due.is("count(21)", 5, x.count(21));
    }
}
