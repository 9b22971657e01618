/** Promises 1 to 7: a new object, slot, first, step, anew, threads, handler; and submit's refusals (8). */
public final class OfficeTest {
    private static final int[] FAR = {Integer.MIN_VALUE, -2, -1, 8, 9, 1000, Integer.MAX_VALUE};

    public static void main(String[] args) {
        newObject();
        slot();
        firstValue();
        stepArguments();
        stepLimit();
        tellingWhileThereAreRuns();
        anew();
        secondLife();
        secondLifeOfOneOnAThread();
        secondLifeOfOneBehindAWait();
        secondLifeOfKin();
        threads();
        handlerArguments();
        submitArguments();
        Due.close("OfficeTest");
    }

    private static void newObject() {
        ErrandGuild x = new ErrandGuild();
        int[] counts = {0, 0, 2, 0, 0, 0, 0, 0, 0, 0, 0};
        for (int what = 0; what < counts.length; what++) {
            Due.is("new: count(" + what + ")", counts[what], x.count(what));
        }
        for (int what = 11; what < 30; what++) {
            Due.is("new: count(" + what + ")", -1, x.count(what));
        }
        Due.is("new: count(-1)", -1, x.count(-1));
        Due.is("new: beat(100)", 0, x.beat(100));
        Due.is("new: count(1)", 0, x.count(1));
        Due.is("new: run(0, 0)", -1, x.run(0, 0));
        Due.is("new: failure(0, 0)", -1, x.failure(0, 0));
        Due.is("new: trace(0, 0)", -1, x.trace(0, 0));
        Due.is("new: child(0, 0)", -1, x.child(0, 0));
        Due.is("new: value(0, 0)", 0, x.value(0, 0));
        Due.is("new: seen(0, 0)", -1, x.seen(0, 0));
        Due.is("new: remark(0, 0)", 0, x.remark(0, 0));
        Due.is("new: handled(0, 0)", -1, x.handled(0, 0));
        Due.is("new: order(0)", -1, x.order(0));
        Due.is("new: interrupt(0)", false, x.interrupt(0));
        for (int e = 0; e < 8; e++) {
            Due.is("new: errand " + e + " has no steps", 1, x.step(e, Ops.END, 0, 0));
        }
        for (int s = 0; s < 8; s++) {
            Due.is("new: write " + s, 2 + s, x.step(0, Ops.WRITE, s, 5));
        }
        x.submit(7);
        for (int s = 0; s < 8; s++) {
            Due.is("new: slot " + s + " has the first 0", 0, x.value(0, s));
        }
    }

    private static void slot() {
        ErrandGuild x = new ErrandGuild();
        for (int far : FAR) {
            Due.is("slot(" + far + ", 0, 0)", false, x.slot(far, 0, 0));
        }
        for (int s = 0; s < 8; s++) {
            for (int manner = 0; manner < 5; manner++) {
                Due.is("slot of manner " + manner, true, x.slot(s, manner, 100 * s + manner));
            }
            Due.is("slot of manner -1", false, x.slot(s, -1, 1));
            Due.is("slot of manner 5", false, x.slot(s, 5, 1));
        }
        x.submit(0);
        for (int s = 0; s < 8; s++) {
            Due.is("the slot's first, after refusals", 100 * s + 4, x.value(0, s));
        }
        Due.is("slot while there is a run", false, x.slot(0, 0, 1));
        x.beat(1);
        Due.is("slot while there is an ended run", false, x.slot(0, 0, 1));
        Due.is("a refused slot changes nothing", 4, x.value(0, 0));
        x.anew(false);
        Due.is("slot behind anew", true, x.slot(0, 0, 1));
    }

    private static void firstValue() {
        ErrandGuild x = Ops.guild();
        for (int far : FAR) {
            Due.is("first(" + far + ", 1)", false, x.first(far, 1));
        }
        x.submit(0);
        for (int s = 0; s < 8; s++) {
            Due.is("first(" + s + ")", true, x.first(s, 50 + s));
        }
        int[] read = {50, 11, 52, 13, 54, 55, 56, 57};
        for (int s = 0; s < 8; s++) {
            Due.is("value behind first of slot " + s, read[s], x.value(0, s));
        }
        x.submit(0);
        for (int s = 0; s < 8; s++) {
            Due.is("value in a later root of slot " + s, 50 + s, x.value(1, s));
        }
    }

    private static void stepArguments() {
        ErrandGuild x = new ErrandGuild();
        for (int far : FAR) {
            Due.is("step(" + far + ", 12, 0, 0)", -1, x.step(far, 12, 0, 0));
            for (int op = 0; op <= 3; op++) {
                Due.is("slot " + far + " of op " + op, -1, x.step(0, op, far, 0));
            }
            Due.is("hand of errand " + far, -1, x.step(0, Ops.HAND, far, 0));
            Due.is("split of errand " + far, -1, x.step(0, Ops.SPLIT, far, 2));
            Due.is("throw of kind " + far, -1, x.step(0, Ops.THROW, far, 0));
            if (far != 8) {
                Due.is("try of kind " + far, -1, x.step(0, Ops.TRY, far, 5));
            }
        }
        int[] noOps = {Integer.MIN_VALUE, -1, 13, 14, Integer.MAX_VALUE};
        for (int op : noOps) {
            Due.is("op " + op, -1, x.step(0, op, 0, 0));
        }
        int[] noHands = {-1, 2, 3, Integer.MIN_VALUE, Integer.MAX_VALUE};
        for (int b : noHands) {
            Due.is("hand with " + b, -1, x.step(0, Ops.HAND, 0, b));
        }
        int[] noSplits = {-1, 0, 1, 5, Integer.MIN_VALUE, Integer.MAX_VALUE};
        for (int b : noSplits) {
            Due.is("split with " + b, -1, x.step(0, Ops.SPLIT, 0, b));
        }
        for (int kind = 4; kind < 8; kind++) {
            Due.is("throw of kind " + kind, -1, x.step(0, Ops.THROW, kind, 0));
        }
        int[] noPlaces = {-1, 0, 25, Integer.MIN_VALUE, Integer.MAX_VALUE};
        for (int b : noPlaces) {
            Due.is("try with the place " + b, -1, x.step(0, Ops.TRY, 8, b));
        }
        int has = 0;
        for (int s = 0; s < 8; s += 7) {
            for (int op = 0; op <= 3; op++) {
                Due.is("op " + op + " of slot " + s, ++has, x.step(0, op, s, -9));
            }
        }
        Due.is("hand 7 0", ++has, x.step(0, Ops.HAND, 7, 0));
        Due.is("hand 7 1", ++has, x.step(0, Ops.HAND, 7, 1));
        Due.is("split 7 2", ++has, x.step(0, Ops.SPLIT, 7, 2));
        Due.is("split 7 4", ++has, x.step(0, Ops.SPLIT, 7, 4));
        Due.is("throw 3", ++has, x.step(0, Ops.THROW, 3, -1));
        Due.is("try at its own place", -1, x.step(0, Ops.TRY, 0, has));
        Due.is("try at the next place", ++has, x.step(0, Ops.TRY, 0, has));
        Due.is("try 8 24", ++has, x.step(0, Ops.TRY, 8, 24));
        int[] free = {Ops.GATHER, Ops.REMARK, Ops.DONE, Ops.PLUS, Ops.END};
        for (int op : free) {
            Due.is("op " + op + " with any a, b", ++has, x.step(0, op, Integer.MIN_VALUE, Integer.MAX_VALUE));
        }
    }

    private static void stepLimit() {
        ErrandGuild x = new ErrandGuild();
        for (int i = 1; i <= 23; i++) {
            Due.is("step " + i, i, x.step(3, Ops.PLUS, 0, 1));
        }
        Due.is("try as the last, at 23", -1, x.step(3, Ops.TRY, 8, 23));
        Due.is("try as the last, at 24", 24, x.step(3, Ops.TRY, 8, 24));
        Due.is("a 25th step", -1, x.step(3, Ops.PLUS, 0, 1));
        Due.is("another errand has its own", 1, x.step(4, Ops.PLUS, 0, 1));
        x.submit(3);
        Due.is("beats of 24 steps and the end", 25, x.beat(100));
        Due.is("sum", 23, x.run(0, Ops.SUM));
        Due.is("place", 24, x.run(0, Ops.PLACE));
    }

    private static void tellingWhileThereAreRuns() {
        ErrandGuild x = new ErrandGuild();
        x.submit(0);
        Due.is("step while there is a run", -1, x.step(0, Ops.PLUS, 0, 1));
        Due.is("threads while there is a run", false, x.threads(3));
        Due.is("beats of an errand without steps", 1, x.beat(100));
        Due.is("step while there is an ended run", -1, x.step(0, Ops.PLUS, 0, 1));
        Due.is("threads while there is an ended run", false, x.threads(2));
        Due.is("handler while there is a run", true, x.handler(2, 0, 0, false));
        x.anew(false);
        Due.is("a refused step changes nothing", 1, x.step(0, Ops.PLUS, 0, 1));
    }

    private static void anew() {
        ErrandGuild x = Ops.guild();
        Ops.program(x, 0, Ops.WRITE, 2, 9, Ops.WRITE, 4, 9, Ops.ADD, 2, 0, Ops.REMARK, 0, 7, Ops.BIND, 3, 8,
                Ops.TRY, 0, 7, Ops.HAND, 1, 0, Ops.THROW, 1, 0);
        Ops.program(x, 1, Ops.PLUS, 0, 1, Ops.PLUS, 0, 1, Ops.PLUS, 0, 1);
        x.handler(2, 0, 66, false);
        x.threads(3);
        x.submit(0);
        x.submit(0);
        x.beat(9);
        x.interrupt(2);
        x.anew(false);
        int[] counts = {0, 0, 3, 0, 0, 0, 0, 0, 0, 0, 0};
        for (int what = 0; what < counts.length; what++) {
            Due.is("anew: count(" + what + ")", counts[what], x.count(what));
        }
        for (int t = 0; t < 3; t++) {
            Due.is("anew: thread " + t, -1, x.count(16 + t));
        }
        Due.is("anew: run(0, 0)", -1, x.run(0, 0));
        Due.is("anew: failure(0, 0)", -1, x.failure(0, 0));
        Due.is("anew: child(0, 0)", -1, x.child(0, 0));
        Due.is("anew: seen(0, 0)", -1, x.seen(0, 0));
        Due.is("anew: remark(0, 0)", 0, x.remark(0, 0));
        Due.is("anew: handled(0, 0)", -1, x.handled(0, 0));
        Due.is("anew: order(0)", -1, x.order(0));
        Due.is("anew: interrupt(0)", false, x.interrupt(0));
        Due.is("anew: beat(5)", 0, x.beat(5));
        Due.is("anew: submit(1)", 0, x.submit(1));
        for (int s = 0; s < 5; s++) {
            Due.is("anew: slot " + s, 10 + s, x.value(0, s));
        }
        int[] fresh = {Ops.READY, 1, -1, 0, 0, -1, 0, 0, 0, 0, -1, 0, 0};
        for (int what = 0; what < fresh.length; what++) {
            Due.is("anew: run(0, " + what + ")", fresh[what], x.run(0, what));
        }
        Due.is("anew: remark of the new run", 0, x.remark(0, 0));
        Due.is("anew: the errand still has its steps", 4, x.beat(100));
        Due.is("anew: its sum", 3, x.run(0, Ops.SUM));
        x.anew(true);
        Due.is("wiped: errand 0", 1, x.step(0, Ops.THROW, 0, 0));
        Due.is("wiped: errand 1", 1, x.step(1, Ops.END, 0, 0));
        Due.is("wiped: threads stay", 3, x.count(2));
        x.submit(0);
        x.beat(1);
        Due.is("wiped: handlers stay", 66, x.handled(0, 2));
        Due.is("wiped: firsts stay", 14, x.value(0, 4));
    }

    /** What ran before anew must not be felt by the runs behind it: they answer as in a new object. */
    private static void secondLife() {
        ErrandGuild old = Ops.guild();
        writeBusyErrands(old);
        for (int r = 0; r < 20; r++) {
            old.submit(r % 3);
        }
        for (int i = 0; i < 12; i++) {
            old.beat(2);
            old.interrupt(3 * i);
        }
        // behind these all 200 have been used, some stand in the midst of their steps, some are interrupted
        for (int r = old.count(0); r < 200; r++) {
            old.submit(r % 3);
        }
        for (int r = 0; r < 200; r += 2) {
            old.interrupt(r);
        }
        old.anew(true);
        ErrandGuild fresh = Ops.guild();
        for (ErrandGuild x : new ErrandGuild[] {old, fresh}) {
            writeBusyErrands(x);
            for (int r = 0; r < 9; r++) {
                x.submit(2 - r % 3);
            }
        }
        for (int beat = 0; beat < 60; beat++) {
            compare(fresh, old);
            Due.is("second life: beat", fresh.beat(1), old.beat(1));
        }
    }

    private static void secondLifeOfOneOnAThread() {
        ErrandGuild x = Ops.guild();
        Ops.program(x, 0, Ops.HAND, 1, 1);
        Ops.program(x, 1, Ops.WRITE, 0, 5, Ops.BIND, 3, 6, Ops.TRY, 8, 5, Ops.PLUS, 0, 0, Ops.PLUS, 0, 0);
        x.submit(0);
        x.beat(4);
        Due.is("own in the first life", 5, x.value(1, 0));
        Due.is("bound in the first life", 6, x.value(1, 3));
        x.anew(true);
        Ops.program(x, 0, Ops.HAND, 1, 0);
        Ops.program(x, 1, Ops.THROW, 1, 0);
        x.submit(0);
        x.beat(1);
        Ops.runs(x, 1, Ops.BINDINGS, 0);
        Ops.runs(x, 1, Ops.TRIES, 0);
        Due.is("own in the second life", 10, x.value(1, 0));
        Due.is("bound in the second life", 13, x.value(1, 3));
        Ops.beatOut(x);
        // it was waited for in the first life only
        Ops.fails(x, 1, Ops.UNCAUGHT, 1);
    }

    private static void secondLifeOfOneBehindAWait() {
        ErrandGuild x = Ops.guild();
        Ops.program(x, 0, Ops.HAND, 1, 1);
        x.submit(0);
        x.beat(2);
        Ops.runs(x, 0, Ops.STATE, Ops.READY);
        x.anew(true);
        Ops.program(x, 0, Ops.PLUS, 0, 6);
        x.submit(0);
        x.beat(1);
        // it has nothing to take from its first life: its first turn is its first step
        Ops.runs(x, 0, Ops.SUM, 6);
    }

    private static void secondLifeOfKin() {
        ErrandGuild x = Ops.guild();
        Ops.program(x, 0, Ops.SPLIT, 1, 2);
        Ops.program(x, 1, Ops.HAND, 2, 0);
        x.submit(0);
        Ops.beatOut(x);
        Due.is("runs of the first life", 5, x.count(0));
        x.anew(true);
        x.threads(4);
        Ops.program(x, 0, Ops.HAND, 1, 0, Ops.GATHER, 0, 0);
        Ops.program(x, 1, Ops.GATHER, 0, 0);
        for (int i = 0; i < 20; i++) {
            x.step(2, Ops.PLUS, 0, 1);
        }
        x.submit(0);
        x.beat(1);
        for (int r = 2; r < 5; r++) {
            x.submit(2);
        }
        x.beat(5);
        // neither waits for those that were its kin in the first life
        Ops.runs(x, 1, Ops.OVER, 3);
        Ops.runs(x, 0, Ops.OVER, 5);
        Ops.runs(x, 2, Ops.STATE, Ops.ON);
    }

    private static void writeBusyErrands(ErrandGuild x) {
        Ops.program(x, 0, Ops.BIND, 3, 5, Ops.TRY, 1, 9, Ops.WRITE, 1, 6, Ops.WRITE, 4, 7, Ops.SPLIT, 1, 2,
                Ops.HAND, 2, 1, Ops.GATHER, 0, 0, Ops.PLUS, 0, 1, Ops.DONE, 0, 0, Ops.ADD, 3, 0, Ops.ADD, 4, 0);
        Ops.program(x, 1, Ops.REMARK, 0, 3, Ops.WRITE, 2, 8, Ops.ADD, 1, 0, Ops.THROW, 1, 0);
        Ops.program(x, 2, Ops.ADD, 2, 0, Ops.ADD, 4, 0, Ops.TRY, 0, 5, Ops.HAND, 1, 0, Ops.BIND, 3, 2,
                Ops.PLUS, 0, 4);
    }

    private static void compare(ErrandGuild fresh, ErrandGuild old) {
        for (int what = 0; what < 22; what++) {
            Due.is("second life: count(" + what + ")", fresh.count(what), old.count(what));
        }
        for (int r = 0; r < fresh.count(0); r++) {
            for (int what = 0; what < 13; what++) {
                Due.is("second life: run(" + r + ", " + what + ")", fresh.run(r, what), old.run(r, what));
                Due.is("second life: failure(" + r + ", " + what + ")", fresh.failure(r, what),
                        old.failure(r, what));
                Due.is("second life: value(" + r + ", " + what + ")", fresh.value(r, what), old.value(r, what));
                Due.is("second life: child(" + r + ", " + what + ")", fresh.child(r, what), old.child(r, what));
                Due.is("second life: remark(" + r + ", " + what + ")", fresh.remark(r, what), old.remark(r, what));
            }
        }
    }

    private static void threads() {
        ErrandGuild x = new ErrandGuild();
        int[] none = {Integer.MIN_VALUE, -1, 0, 7, Integer.MAX_VALUE};
        for (int n : none) {
            Due.is("threads(" + n + ")", false, x.threads(n));
            Due.is("count(2)", 2, x.count(2));
        }
        Ops.program(x, 0, Ops.PLUS, 0, 1);
        for (int n = 1; n <= 6; n++) {
            Due.is("threads(" + n + ")", true, x.threads(n));
            Due.is("count(2)", n, x.count(2));
            for (int r = 0; r < 8; r++) {
                x.submit(0);
            }
            x.beat(1);
            Due.is("so many are on threads", n, x.count(4));
            for (int t = 0; t < 7; t++) {
                Due.is("the run on thread " + t, t < n ? t : -1, x.count(16 + t));
            }
            x.anew(false);
        }
    }

    private static void handlerArguments() {
        ErrandGuild x = new ErrandGuild();
        for (int far : FAR) {
            Due.is("handler(0, " + far + ")", false, x.handler(0, far, 1, false));
            Due.is("handler(1, " + far + ")", false, x.handler(1, far, 1, false));
            Due.is("handler(2, " + far + ")", true, x.handler(2, far, 1, true));
        }
        int[] noLevels = {Integer.MIN_VALUE, -1, 3, Integer.MAX_VALUE};
        for (int level : noLevels) {
            Due.is("handler(" + level + ", 0)", false, x.handler(level, 0, 1, false));
        }
        for (int of = 0; of < 8; of++) {
            Due.is("handler(0, " + of + ")", true, x.handler(0, of, 1, false));
            Due.is("handler(1, " + of + ")", true, x.handler(1, of, 1, false));
        }
    }

    private static void submitArguments() {
        ErrandGuild x = new ErrandGuild();
        for (int far : FAR) {
            Due.is("submit(" + far + ")", -1, x.submit(far));
        }
        for (int r = 0; r < 200; r++) {
            Due.is("submit", r, x.submit(r % 8));
            Due.is("errand", r % 8, x.run(r, Ops.ERRAND));
        }
        Due.is("a 201st", -1, x.submit(0));
        Due.is("count(0)", 200, x.count(0));
        Due.is("count(3)", 200, x.count(3));
        Due.is("run(200, 0)", -1, x.run(200, 0));
        Due.is("run(199, 3)", 199, x.run(199, Ops.ROOT));
        Due.is("beats", 100, x.beat(100));
        Due.is("beats", 0, x.beat(100));
        Due.is("a 201st when all are ended", -1, x.submit(0));
    }
}
