/** Refused calls between others: an object that gets them lives on as its twin that does not. */
public final class RefusedTest {
    private static final int[] FAR = {Integer.MIN_VALUE, -1, 8, 25, 200, Integer.MAX_VALUE};

    private final ErrandGuild plain = Ops.guild();
    private final ErrandGuild teased = Ops.guild();
    private String stage = "";

    public static void main(String[] args) {
        Doc.says("A call that is refused (NONE, false) changes nothing.");
        new RefusedTest().live();
        new RefusedTest().liveTillItIsFull();
        Due.close("RefusedTest");
    }

    private void live() {
        for (ErrandGuild x : both()) {
            writeErrands(x);
            x.threads(3);
            x.handler(0, 1, 5, true);
            x.handler(1, 1, 6, true);
            x.handler(2, 0, 7, false);
        }
        teaseBeforeRuns();
        same("before there are runs");
        for (int e = 0; e < 4; e++) {
            Due.is("submit", plain.submit(e), teased.submit(e));
        }
        same("given in");
        for (int beat = 1; beat <= 40; beat++) {
            if (beat % 5 == 0) {
                int r = beat / 5;
                Due.is("interrupt", plain.interrupt(r), teased.interrupt(r));
                Due.is("interrupt that is not noticed yet", false, teased.interrupt(r));
                same("interrupted");
            }
            Due.is("beat", plain.beat(1), teased.beat(1));
            same("beat " + beat);
        }
        plain.anew(false);
        teased.anew(false);
        teaseBeforeRuns();
        same("anew");
        for (ErrandGuild x : both()) {
            Due.is("a step behind all", 4, x.step(1, Ops.PLUS, 0, 1));
            x.submit(0);
            x.beat(100);
        }
        same("in a second life");
    }

    private void liveTillItIsFull() {
        for (ErrandGuild x : both()) {
            for (int i = 0; i < 24; i++) {
                x.step(3, Ops.PLUS, 0, 1);
            }
            Ops.program(x, 0, Ops.SPLIT, 3, 4, Ops.PLUS, 0, 1);
            for (int r = 0; r < 198; r++) {
                x.submit(r % 4);
            }
        }
        same("nearly full");
        for (ErrandGuild x : both()) {
            x.beat(1);
        }
        Due.is("count(0)", 200, teased.count(0));
        Due.is("a full office takes none", -1, teased.submit(3));
        same("full");
        for (ErrandGuild x : both()) {
            Ops.beatOut(x);
        }
        Due.is("a full office takes none, though all are over", -1, teased.submit(3));
        same("over");
    }

    private ErrandGuild[] both() {
        return new ErrandGuild[] {plain, teased};
    }

    private static void writeErrands(ErrandGuild x) {
        Ops.program(x, 0, Ops.WRITE, 1, 3, Ops.BIND, 3, 4, Ops.HAND, 1, 0, Ops.TRY, 8, 6, Ops.SPLIT, 2, 3,
                Ops.GATHER, 0, 0, Ops.ADD, 3, 0, Ops.ADD, 0, 0, Ops.HAND, 3, 1, Ops.ADD, 1, 0);
        Ops.program(x, 1, Ops.REMARK, 0, 8, Ops.WRITE, 2, 9, Ops.THROW, 1, 0);
        Ops.program(x, 2, Ops.ADD, 1, 0, Ops.ADD, 2, 0, Ops.ADD, 3, 0, Ops.PLUS, 0, 5);
        Ops.program(x, 3, Ops.WRITE, 0, 2, Ops.WRITE, 4, 3, Ops.ADD, 4, 0, Ops.HAND, 2, 1, Ops.ADD, 0, 0);
    }

    /** What is refused without RUNS. */
    private void teaseBeforeRuns() {
        for (int far : FAR) {
            Due.is("slot " + far, false, teased.slot(far, Ops.OWN, 77));
            Due.is("manner " + far, false, teased.slot(0, far, 77));
            Due.is("slot of a step " + far, -1, teased.step(1, Ops.WRITE, far, 1));
            Due.is("errand of a step " + far, -1, teased.step(1, Ops.HAND, far, 1));
            Due.is("b of a hand " + far, -1, teased.step(1, Ops.HAND, 1, far));
            Due.is("b of a split " + far, -1, teased.step(1, Ops.SPLIT, 1, far));
            Due.is("kind of a throw " + far, -1, teased.step(1, Ops.THROW, far, 1));
            Due.is("threads " + far, false, teased.threads(far));
        }
        for (int place : new int[] {Integer.MIN_VALUE, -1, 0, 3, 25, Integer.MAX_VALUE}) {
            Due.is("place of a try " + place, -1, teased.step(1, Ops.TRY, 8, place));
        }
        Due.is("kind of a try", -1, teased.step(1, Ops.TRY, 9, 20));
        tease();
    }

    /** What is refused always. */
    private void tease() {
        for (int far : FAR) {
            Due.is("first " + far, false, teased.first(far, 77));
            Due.is("errand " + far, -1, teased.step(far, Ops.PLUS, 0, 77));
            // op 8 is one, but throws no such kind
            Due.is("op " + far, -1, teased.step(1, far, 9, 77));
            Due.is("handler of errand " + far, false, teased.handler(0, far, 77, false));
            Due.is("handler of kind " + far, false, teased.handler(1, far, 77, false));
            Due.is("level " + far, false, teased.handler(far, 0, 77, false));
            Due.is("submit " + far, -1, teased.submit(far));
        }
        for (int n : new int[] {Integer.MIN_VALUE, -1, 0, 101, Integer.MAX_VALUE}) {
            Due.is("beat " + n, -1, teased.beat(n));
        }
        for (int r : new int[] {Integer.MIN_VALUE, -1, teased.count(0), 200, Integer.MAX_VALUE}) {
            Due.is("interrupt " + r, false, teased.interrupt(r));
        }
    }

    /** What is refused while there are RUNS. */
    private void teaseWithRuns() {
        for (int s = 0; s < 8; s++) {
            Due.is("slot", false, teased.slot(s, (s + 1) % 5, 77));
            Due.is("slot of the same manner", false, teased.slot(s, s < 5 ? s : Ops.OWN, 77));
        }
        for (int e = 0; e < 8; e++) {
            Due.is("step", -1, teased.step(e, Ops.PLUS, 0, 77));
        }
        for (int n = 1; n <= 6; n++) {
            Due.is("threads", false, teased.threads(n));
        }
        for (int r = 0; r < teased.count(0); r++) {
            if (teased.run(r, Ops.STATE) >= Ops.ENDED) {
                Due.is("interrupt of one that is over", false, teased.interrupt(r));
            }
        }
        if (teased.count(3) + teased.count(4) + teased.count(5) == 0) {
            Due.is("beat with nothing left to do", 0, teased.beat(100));
        }
        tease();
    }

    private void same(String newStage) {
        stage = newStage + ": ";
        if (teased.count(0) > 0) {
            teaseWithRuns();
        }
        for (int what = 0; what < 24; what++) {
            alike("count", plain.count(what), teased.count(what));
        }
        for (int r = 0; r < plain.count(0); r++) {
            sameRun(r);
        }
        for (int i = 0; i <= plain.count(8) && i < 100; i++) {
            for (int what = 0; what < 4; what++) {
                alike("seen", plain.seen(i, what), teased.seen(i, what));
            }
        }
        for (int i = 0; i <= plain.count(9); i++) {
            for (int what = 0; what < 4; what++) {
                alike("handled", plain.handled(i, what), teased.handled(i, what));
            }
        }
        for (int i = 0; i <= plain.count(10) && i < 2000; i++) {
            alike("order", plain.order(i), teased.order(i));
        }
    }

    private void sameRun(int r) {
        for (int what = 0; what < 13; what++) {
            alike("run(" + r + ", " + what + ")", plain.run(r, what), teased.run(r, what));
        }
        for (int i = 0; i < 8; i++) {
            alike("failure", plain.failure(r, i), teased.failure(r, i));
            alike("trace", plain.trace(r, i), teased.trace(r, i));
            alike("child", plain.child(r, i), teased.child(r, i));
            alike("value(" + r + ", " + i + ")", plain.value(r, i), teased.value(r, i));
            alike("remark", plain.remark(r, i), teased.remark(r, i));
        }
    }

    private void alike(String call, int want, int got) {
        Due.is(stage + call, want, got);
    }
}
