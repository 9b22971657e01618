/** The edges that promises 1 to 10 name: a new object, what is told to it, and what moves RUNS. */
public final class TellEdgesTest {
    private static final int MIN = Integer.MIN_VALUE;
    private static final int MAX = Integer.MAX_VALUE;

    public static void main(String[] args) {
        newObject();
        slotNumbers();
        slotWhileThereAreRuns();
        firstNumbers();
        stepCounts();
        stepWhileThereAreRuns();
        stepErrandsAndOps();
        stepSlots();
        stepErrands();
        stepKinds();
        stepHands();
        stepSplits();
        stepPlaces();
        stepOthers();
        stepTwentyFour();
        anewRuns();
        anewWipes();
        threadNumbers();
        threadsWhileThereAreRuns();
        handlerNumbers();
        handlerInPlaceOfOneBefore();
        submitNumbers();
        submitTwoHundred();
        beatNumbers();
        beatFewer();
        interruptRefused();
        Due.close("TellEdgesTest");
    }

    /** Whether low to high are taken, and the numbers around and far from them are not. */
    private static int[] around(int low, int high) {
        return new int[] {MIN, MIN + 1, low - 1, low, low + 1, high - 1, high, high + 1, MAX - 1, MAX};
    }

    private static boolean in(int i, int low, int high) {
        return low <= i && i <= high;
    }

    private static void newObject() {
        Doc.says("`ErrandGuild()`: ERRANDS without STEPS, no RUNS, BEAT 0.");
        ErrandGuild x = new ErrandGuild();
        Due.is("count(0)", 0, x.count(0));
        Due.is("count(1)", 0, x.count(1));
        Due.is("run(0, 0)", -1, x.run(0, 0));
        for (int e = 0; e < 8; e++) {
            Due.is("submit", e, x.submit(e));
        }
        // without steps each is ended by its first turn
        Due.is("beats of eight on two threads", 4, x.beat(100));
        Due.is("count(6)", 8, x.count(6));
        ErrandGuild y = new ErrandGuild();
        for (int e = 0; e < 8; e++) {
            Due.is("the first step of " + e, 1, y.step(e, Ops.END, 0, 0));
        }
    }

    private static void slotNumbers() {
        Doc.says("SLOT s: true; false: no such s, MANNER.");
        ErrandGuild x = new ErrandGuild();
        for (int s : around(0, 7)) {
            for (int manner : around(0, 4)) {
                boolean want = in(s, 0, 7) && in(manner, 0, 4);
                Due.is("slot(" + s + ", " + manner + ")", want, x.slot(s, manner, MIN));
            }
        }
        for (int s = 0; s < 8; s++) {
            Due.is("slot(" + s + ")", true, x.slot(s, Ops.WIPED, s % 2 == 0 ? MIN + s : MAX - s));
        }
        x.submit(0);
        for (int s = 0; s < 8; s++) {
            Due.is("any first is taken", s % 2 == 0 ? MIN + s : MAX - s, x.value(0, s));
        }
    }

    private static void slotWhileThereAreRuns() {
        Doc.says("(MANNERS can't be told while there are RUNS: false.)");
        ErrandGuild x = Ops.guild();
        x.submit(0);
        Due.is("one that is ready", false, x.slot(0, Ops.OWN, 1));
        Due.is("another manner", false, x.slot(0, Ops.WIPED, 1));
        x.beat(1);
        Due.is("one that is ended", false, x.slot(0, Ops.OWN, 1));
        Due.is("its first stays", 10, x.value(0, 0));
        x.anew(false);
        Due.is("none any more", true, x.slot(0, Ops.WIPED, 1));
    }

    private static void firstNumbers() {
        Doc.says("A SLOT's FIRST value: true; false: no such s.");
        ErrandGuild x = new ErrandGuild();
        for (int s : around(0, 7)) {
            Due.is("first(" + s + ") without runs", in(s, 0, 7), x.first(s, 40));
        }
        x.submit(0);
        for (int s : around(0, 7)) {
            Due.is("first(" + s + ") with runs", in(s, 0, 7), x.first(s, MAX));
        }
        Due.is("value", MAX, x.value(0, 7));
        Due.is("value of one that was not told", 0, x.value(0, 3));
        x.beat(1);
        Due.is("first with one that is ended", true, x.first(0, MIN));
        Due.is("value", MIN, x.value(0, 0));
    }

    private static void stepCounts() {
        Doc.says("A STEP comes behind ERRAND e's: how many it has;");
        ErrandGuild x = new ErrandGuild();
        Due.is("first of 0", 1, x.step(0, Ops.PLUS, 0, 1));
        Due.is("first of 7", 1, x.step(7, Ops.PLUS, 0, 2));
        Due.is("second of 0", 2, x.step(0, Ops.REMARK, 0, 3));
        Due.is("third of 0", 3, x.step(0, Ops.REMARK, 0, 4));
        Due.is("second of 7", 2, x.step(7, Ops.PLUS, 0, 5));
        x.submit(0);
        x.submit(7);
        Ops.beatOut(x);
        Ops.runs(x, 0, Ops.SUM, 1);
        Due.is("in their order", 3, x.remark(0, 0));
        Due.is("in their order", 4, x.remark(0, 1));
        Ops.runs(x, 1, Ops.SUM, 7);
    }

    private static void stepWhileThereAreRuns() {
        Doc.says("NONE: there are RUNS,");
        ErrandGuild x = new ErrandGuild();
        x.submit(0);
        Due.is("one that is ready", -1, x.step(0, Ops.PLUS, 0, 1));
        Due.is("another errand", -1, x.step(1, Ops.PLUS, 0, 1));
        x.beat(1);
        Due.is("one that is ended", -1, x.step(0, Ops.PLUS, 0, 1));
        x.anew(false);
        Due.is("none any more", 1, x.step(0, Ops.PLUS, 0, 1));
    }

    private static void stepErrandsAndOps() {
        Doc.says("no such e, op, or a, b:");
        for (int e : around(0, 7)) {
            for (int op : around(0, 12)) {
                ErrandGuild x = new ErrandGuild();
                int want = in(e, 0, 7) && in(op, 0, 12) ? 1 : -1;
                Due.is("step(" + e + ", " + op + ")", want, x.step(e, op, 0, 0));
            }
        }
        for (int op = 0; op <= 12; op++) {
            ErrandGuild x = new ErrandGuild();
            int b = op == Ops.SPLIT ? 2 : op == Ops.TRY ? 1 : 0;
            Due.is("op " + op, 1, x.step(0, op, 0, b));
        }
    }

    private static void stepSlots() {
        Doc.says("a SLOT (0 to 3),");
        for (int op = Ops.WRITE; op <= Ops.FREE; op++) {
            for (int s : around(0, 7)) {
                ErrandGuild x = new ErrandGuild();
                Due.is("op " + op + " of slot " + s, in(s, 0, 7) ? 1 : -1, x.step(0, op, s, MIN));
            }
        }
    }

    private static void stepErrands() {
        Doc.says("ERRAND (4, 5),");
        for (int e : around(0, 7)) {
            ErrandGuild x = new ErrandGuild();
            boolean isThere = in(e, 0, 7);
            Due.is("hand of errand " + e, isThere ? 1 : -1, x.step(0, Ops.HAND, e, 0));
            Due.is("split of errand " + e, isThere ? 2 : -1, x.step(0, Ops.SPLIT, e, 2));
        }
    }

    private static void stepKinds() {
        Doc.says("KIND (8: 0 to 3, 9: 0 to 8),");
        for (int kind : around(0, 3)) {
            ErrandGuild x = new ErrandGuild();
            Due.is("throw of kind " + kind, in(kind, 0, 3) ? 1 : -1, x.step(0, Ops.THROW, kind, MAX));
        }
        for (int kind : around(0, 8)) {
            ErrandGuild x = new ErrandGuild();
            Due.is("try of kind " + kind, in(kind, 0, 8) ? 1 : -1, x.step(0, Ops.TRY, kind, 1));
        }
    }

    private static void stepHands() {
        Doc.says("b 0 or 1 (4),");
        for (int b : around(0, 1)) {
            ErrandGuild x = new ErrandGuild();
            Due.is("hand with " + b, in(b, 0, 1) ? 1 : -1, x.step(0, Ops.HAND, 0, b));
        }
    }

    private static void stepSplits() {
        Doc.says("2 to 4 (5),");
        for (int b : around(2, 4)) {
            ErrandGuild x = new ErrandGuild();
            Due.is("split with " + b, in(b, 2, 4) ? 1 : -1, x.step(0, Ops.SPLIT, 0, b));
        }
    }

    private static void stepPlaces() {
        Doc.says("a place behind this STEP, at most 24 (9);");
        for (int at = 0; at < 24; at++) {
            for (int b : around(at + 1, 24)) {
                ErrandGuild x = new ErrandGuild();
                for (int i = 0; i < at; i++) {
                    x.step(5, Ops.PLUS, 0, 0);
                }
                int want = in(b, at + 1, 24) ? at + 1 : -1;
                Due.is("try at " + at + " with the place " + b, want, x.step(5, Ops.TRY, 8, b));
            }
        }
    }

    private static void stepOthers() {
        Doc.says("others are not looked at;");
        int[] any = {MIN, -1, 0, 8, 25, MAX};
        for (int one : any) {
            for (int other : any) {
                ErrandGuild x = new ErrandGuild();
                int has = 0;
                for (int op = Ops.WRITE; op <= Ops.FREE; op++) {
                    Due.is("op " + op, ++has, x.step(0, op, 0, other));
                }
                Due.is("throw", ++has, x.step(0, Ops.THROW, 0, other));
                for (int op : new int[] {Ops.GATHER, Ops.REMARK, Ops.DONE, Ops.PLUS, Ops.END}) {
                    Due.is("op " + op, ++has, x.step(0, op, one, other));
                }
            }
        }
    }

    private static void stepTwentyFour() {
        Doc.says("24 are there.");
        ErrandGuild x = new ErrandGuild();
        for (int i = 1; i <= 24; i++) {
            Due.is("step", i, x.step(2, Ops.PLUS, 0, 1));
        }
        for (int op = 0; op <= 12; op++) {
            Due.is("one more, op " + op, -1, x.step(2, op, 0, op == Ops.SPLIT ? 2 : op == Ops.TRY ? 24 : 0));
        }
        x.submit(2);
        Due.is("beats", 25, x.beat(100));
        x.anew(false);
        Due.is("one more behind anew", -1, x.step(2, Ops.PLUS, 0, 1));
        x.anew(true);
        Due.is("the first behind a wipe", 1, x.step(2, Ops.PLUS, 0, 1));
    }

    private static void anewRuns() {
        Doc.says("All RUNS are gone, BEAT 0;");
        ErrandGuild x = Ops.guild();
        Ops.program(x, 0, Ops.PLUS, 0, 1);
        x.anew(false);
        Due.is("anew of one without runs: its steps stay", 2, x.step(0, Ops.PLUS, 0, 1));
        for (int r = 0; r < 200; r++) {
            x.submit(0);
        }
        x.beat(2);
        x.anew(false);
        Due.is("count(0)", 0, x.count(0));
        Due.is("count(1)", 0, x.count(1));
        for (int what = 3; what <= 7; what++) {
            Due.is("count(" + what + ")", 0, x.count(what));
        }
        Due.is("thread 0", -1, x.count(16));
        Due.is("thread 1", -1, x.count(17));
        for (int r : new int[] {0, 1, 199}) {
            Due.is("run(" + r + ", 0)", -1, x.run(r, 0));
            Due.is("value(" + r + ", 0)", 0, x.value(r, 0));
            Due.is("interrupt(" + r + ")", false, x.interrupt(r));
        }
        Due.is("nothing is left to do", 0, x.beat(1));
        Due.is("the first number again", 0, x.submit(0));
        Due.is("beats", 3, x.beat(100));
        Ops.runs(x, 0, Ops.OVER, 3);
        Ops.runs(x, 0, Ops.SUM, 2);
    }

    private static void anewWipes() {
        Doc.says("wipes: ERRANDS have no STEPS, too.");
        ErrandGuild x = Ops.guild();
        for (int e = 0; e < 8; e++) {
            Ops.program(x, e, Ops.PLUS, 0, 1, Ops.PLUS, 0, 1);
        }
        x.anew(true);
        for (int e = 0; e < 8; e++) {
            x.submit(e);
        }
        Due.is("beats", 4, x.beat(100));
        x.anew(true);
        for (int e = 0; e < 8; e++) {
            Due.is("the first step of " + e, 1, x.step(e, Ops.PLUS, 0, 1));
        }
        x.anew(false);
        Due.is("without wiping", 2, x.step(0, Ops.PLUS, 0, 1));
    }

    private static void threadNumbers() {
        Doc.says("So many THREADS: true; false: no such number,");
        ErrandGuild x = new ErrandGuild();
        int has = 2;
        for (int n : around(1, 6)) {
            Due.is("threads(" + n + ")", in(n, 1, 6), x.threads(n));
            has = in(n, 1, 6) ? n : has;
            Due.is("count(2)", has, x.count(2));
        }
        Due.is("threads(0)", false, x.threads(0));
    }

    private static void threadsWhileThereAreRuns() {
        Doc.says("or there are RUNS.");
        ErrandGuild x = new ErrandGuild();
        x.submit(0);
        Due.is("one that is ready", false, x.threads(3));
        x.beat(1);
        Due.is("one that is ended", false, x.threads(3));
        Due.is("the same number", false, x.threads(2));
        Due.is("count(2)", 2, x.count(2));
        x.anew(false);
        Due.is("none any more", true, x.threads(3));
    }

    private static void handlerNumbers() {
        Doc.says("A HANDLER: level 0 of ERRAND of, 1 of KIND of (0 to 7), 2 of the office (of is not looked at): true;"
                + " false: no such ones.");
        ErrandGuild x = new ErrandGuild();
        for (int level : around(0, 2)) {
            for (int of : around(0, 7)) {
                boolean want = level == 2 || in(level, 0, 1) && in(of, 0, 7);
                Due.is("handler(" + level + ", " + of + ")", want, x.handler(level, of, MIN, true));
            }
        }
        x.submit(0);
        Due.is("handler while there are runs", true, x.handler(0, 0, 1, false));
    }

    private static void handlerInPlaceOfOneBefore() {
        Doc.says("(In place of one before.)");
        int[] of = {7, 3, 0};
        for (int level = 0; level < 3; level++) {
            ErrandGuild x = new ErrandGuild();
            Ops.program(x, 7, Ops.THROW, 3, 0);
            x.handler(level, of[level], 1, false);
            x.handler(level, of[level] + (level == 2 ? 5 : 0), MIN, true);
            x.submit(7);
            x.beat(1);
            Due.is("count(9)", 1, x.count(9));
            Due.is("effect", MIN, x.handled(0, 2));
            Due.is("whether it threw", 1, x.handled(0, 3));
            x.handler(level, of[level], MAX, false);
            x.submit(7);
            x.beat(1);
            Due.is("effect", MAX, x.handled(1, 2));
            Due.is("whether it threw", 0, x.handled(1, 3));
            Due.is("what was told before stays", MIN, x.handled(0, 2));
        }
    }

    private static void submitNumbers() {
        Doc.says("A RUN of ERRAND e is given in: its number; NONE: no such e,");
        ErrandGuild x = new ErrandGuild();
        int runs = 0;
        for (int e : around(0, 7)) {
            Due.is("submit(" + e + ")", in(e, 0, 7) ? runs++ : -1, x.submit(e));
            Due.is("count(0)", runs, x.count(0));
        }
    }

    private static void submitTwoHundred() {
        Doc.says("`int submit(int e)`: A RUN of ERRAND e is given in: its number; NONE: no such e, 200 are there.");
        ErrandGuild x = new ErrandGuild();
        for (int r = 0; r < 200; r++) {
            Due.is("submit", r, x.submit(0));
        }
        Due.is("one more", -1, x.submit(0));
        x.beat(100);
        Due.is("one more when all are ended", -1, x.submit(0));
        Due.is("count(0)", 200, x.count(0));
        Due.is("count(6)", 200, x.count(6));
        x.anew(false);
        Due.is("the first behind anew", 0, x.submit(0));
    }

    private static void beatNumbers() {
        Doc.says("n BEATS (1 to 100),");
        for (int n : around(1, 100)) {
            ErrandGuild x = new ErrandGuild();
            x.threads(1);
            for (int r = 0; r < 150; r++) {
                x.submit(0);
            }
            int want = in(n, 1, 100) ? n : -1;
            Due.is("beat(" + n + ")", want, x.beat(n));
            Due.is("count(1)", Math.max(0, want), x.count(1));
        }
    }

    private static void beatFewer() {
        Doc.says("fewer if nothing is left to do: how many there were; NONE: another n.");
        ErrandGuild x = new ErrandGuild();
        Due.is("without runs", 0, x.beat(100));
        Due.is("count(1)", 0, x.count(1));
        Ops.program(x, 0, Ops.PLUS, 0, 1, Ops.PLUS, 0, 1);
        Ops.program(x, 1, Ops.THROW, 0, 0);
        Ops.program(x, 2, Ops.HAND, 0, 1);
        x.submit(0);
        Due.is("as many as are needed", 3, x.beat(3));
        Due.is("nothing is left", 0, x.beat(1));
        x.submit(1);
        Due.is("till one is failed", 1, x.beat(2));
        x.submit(2);
        Due.is("till one that waited is ended", 6, x.beat(100));
        Due.is("count(1)", 10, x.count(1));
        Due.is("another n when nothing is left", -1, x.beat(0));
        Due.is("another n when nothing is left", -1, x.beat(101));
        Due.is("count(1)", 10, x.count(1));
    }

    private static void interruptRefused() {
        Doc.says("AN INTERRUPT: true; false: no such RUN, it is ENDED or FAILED, or one was told that was not"
                + " noticed yet.");
        ErrandGuild x = new ErrandGuild();
        Due.is("without runs", false, x.interrupt(0));
        Ops.program(x, 0, Ops.PLUS, 0, 1, Ops.PLUS, 0, 1);
        Ops.program(x, 1, Ops.THROW, 0, 0);
        x.submit(0);
        x.submit(1);
        x.submit(2);
        for (int r : new int[] {MIN, -1, 3, 199, 200, MAX}) {
            Due.is("interrupt(" + r + ")", false, x.interrupt(r));
        }
        x.beat(2);
        Due.is("one that is failed", false, x.interrupt(1));
        Due.is("one that is ended", false, x.interrupt(2));
        Ops.fails(x, 1, Ops.KIND, 0);
        Due.is("one on a thread", true, x.interrupt(0));
        Due.is("not noticed yet", false, x.interrupt(0));
        x.beat(1);
        Ops.fails(x, 0, Ops.KIND, Ops.INTERRUPTED);
        Due.is("noticed, and failed", false, x.interrupt(0));
    }
}
