/** Promises 8, 9, 11, 14, 17, 19 and 20: submit, beat, run, child, remark, order, count. */
public final class BeatsTest {
    public static void main(String[] args) {
        beatArguments();
        lowNumbersComeFirst();
        handing();
        waitingAndGoingOn();
        gatherAtOnce();
        gatherTakesWhatIsLeft();
        splitting();
        endings();
        sumWraps();
        runArguments();
        children();
        remarks();
        manyRemarks();
        orderOfTurns();
        orderLimit();
        counts();
        longLoops();
        Due.close("BeatsTest");
    }

    private static void beatArguments() {
        ErrandGuild x = Ops.guild();
        Ops.program(x, 0, Ops.PLUS, 0, 1, Ops.PLUS, 0, 1);
        x.submit(0);
        int[] none = {Integer.MIN_VALUE, -1, 0, 101, Integer.MAX_VALUE};
        for (int n : none) {
            Due.is("beat(" + n + ")", -1, x.beat(n));
            Due.is("count(1)", 0, x.count(1));
        }
        Due.is("beat(1)", 1, x.beat(1));
        Due.is("beat(100)", 2, x.beat(100));
        Due.is("beat(100)", 0, x.beat(100));
        Due.is("count(1)", 3, x.count(1));
        Ops.runs(x, 0, Ops.OVER, 3);
        x.submit(0);
        Due.is("beat(2)", 2, x.beat(2));
        Due.is("count(1)", 5, x.count(1));
    }

    private static void lowNumbersComeFirst() {
        ErrandGuild x = Ops.guild();
        Ops.program(x, 0, Ops.PLUS, 0, 1);
        Ops.program(x, 1, Ops.PLUS, 0, 1, Ops.PLUS, 0, 1);
        x.submit(1);
        x.submit(0);
        x.submit(0);
        x.submit(0);
        x.beat(1);
        int[] threads = {0, 1, -1, -1};
        for (int r = 0; r < 4; r++) {
            Ops.runs(x, r, Ops.THREAD, threads[r]);
            Ops.runs(x, r, Ops.STATE, threads[r] >= 0 ? Ops.ON : Ops.READY);
        }
        x.beat(1);
        Ops.runs(x, 1, Ops.STATE, Ops.ENDED);
        Ops.runs(x, 2, Ops.STATE, Ops.READY);
        Due.is("thread 1 is free till the next beat", -1, x.count(17));
        x.beat(1);
        Ops.runs(x, 2, Ops.THREAD, 1);
        x.beat(1);
        Ops.runs(x, 3, Ops.STATE, Ops.ON);
        Ops.runs(x, 3, Ops.THREAD, 0);
    }

    private static void handing() {
        ErrandGuild x = Ops.guild();
        Ops.program(x, 0, Ops.PLUS, 0, 1, Ops.HAND, 1, 0, Ops.PLUS, 0, 1);
        Ops.program(x, 1, Ops.HAND, 2, 0, Ops.PLUS, 0, 5);
        x.submit(3);
        x.submit(0);
        x.beat(2);
        Ops.runs(x, 2, Ops.STATE, Ops.READY);
        Ops.runs(x, 2, Ops.VISITS, 0);
        x.beat(1);
        Ops.runs(x, 2, Ops.STATE, Ops.ON);
        int[] handed = {Ops.ON, 1, 1, 1, 1, 0, 0, 1, 0, 0, -1, 1, 1};
        for (int what = 0; what < handed.length; what++) {
            Ops.runs(x, 2, what, handed[what]);
        }
        Ops.beatOut(x);
        int[] grandchild = {Ops.ENDED, 2, 2, 1, 2, -1, 0, 0, 0, 0, 5, 0, 1};
        for (int what = 0; what < grandchild.length; what++) {
            Ops.runs(x, 3, what, grandchild[what]);
        }
        Ops.runs(x, 1, Ops.SUM, 2);
    }

    private static void waitingAndGoingOn() {
        ErrandGuild x = Ops.guild();
        Ops.program(x, 0, Ops.HAND, 1, 0, Ops.HAND, 2, 1, Ops.PLUS, 0, 100);
        Ops.program(x, 1, Ops.PLUS, 0, 7, Ops.PLUS, 0, 7, Ops.PLUS, 0, 7, Ops.PLUS, 0, 7, Ops.PLUS, 0, 7);
        Ops.program(x, 2, Ops.PLUS, 0, 3);
        x.submit(0);
        x.beat(2);
        Ops.runs(x, 0, Ops.STATE, Ops.WAITS);
        Ops.runs(x, 0, Ops.PLACE, 1);
        Ops.runs(x, 0, Ops.THREAD, -1);
        x.beat(2);
        Ops.runs(x, 2, Ops.STATE, Ops.ENDED);
        Ops.runs(x, 1, Ops.STATE, Ops.ON);
        Ops.runs(x, 0, Ops.STATE, Ops.READY);
        Ops.runs(x, 0, Ops.SUM, 0);
        x.beat(1);
        Ops.runs(x, 0, Ops.SUM, 3);
        Ops.runs(x, 0, Ops.PLACE, 2);
        Ops.runs(x, 0, Ops.VISITS, 2);
        Ops.beatOut(x);
        Ops.runs(x, 0, Ops.SUM, 103);
        Ops.runs(x, 1, Ops.SUM, 35);
    }

    private static void gatherAtOnce() {
        ErrandGuild x = Ops.guild();
        Ops.program(x, 0, Ops.GATHER, 0, 0, Ops.HAND, 1, 0, Ops.PLUS, 0, 0, Ops.PLUS, 0, 0, Ops.GATHER, 0, 0,
                Ops.GATHER, 0, 0);
        Ops.program(x, 1, Ops.PLUS, 0, 9);
        x.submit(0);
        x.beat(1);
        Ops.runs(x, 0, Ops.PLACE, 1);
        x.beat(4);
        Ops.runs(x, 0, Ops.STATE, Ops.ON);
        Ops.runs(x, 0, Ops.PLACE, 5);
        Ops.runs(x, 0, Ops.SUM, 9);
        Ops.beatOut(x);
        Ops.runs(x, 0, Ops.SUM, 9);
        Ops.runs(x, 0, Ops.VISITS, 1);
    }

    private static void gatherTakesWhatIsLeft() {
        ErrandGuild x = Ops.guild();
        Ops.program(x, 0, Ops.HAND, 1, 1, Ops.HAND, 1, 0, Ops.HAND, 2, 0, Ops.GATHER, 0, 0, Ops.HAND, 3, 0,
                Ops.GATHER, 0, 0);
        Ops.program(x, 1, Ops.PLUS, 0, 1);
        Ops.program(x, 2, Ops.PLUS, 0, 10);
        Ops.program(x, 3, Ops.PLUS, 0, 100);
        x.submit(0);
        Ops.beatOut(x);
        Ops.runs(x, 0, Ops.SUM, 112);
        Ops.runs(x, 0, Ops.VISITS, 4);
    }

    private static void splitting() {
        ErrandGuild x = Ops.guild();
        Ops.program(x, 0, Ops.SPLIT, 1, 4, Ops.GATHER, 0, 0);
        Ops.program(x, 1, Ops.PLUS, 0, 6);
        x.submit(0);
        x.beat(1);
        Ops.runs(x, 0, Ops.PLACE, 1);
        Ops.runs(x, 0, Ops.CHILDREN, 4);
        Due.is("count(3)", 4, x.count(3));
        // four children of two steps on two threads, but for the beat that the giver needs to gather
        Due.is("beats", 7, Ops.beatOut(x));
        Ops.runs(x, 0, Ops.SUM, 24);
    }

    private static void endings() {
        ErrandGuild x = Ops.guild();
        Ops.program(x, 0, Ops.BIND, 3, 1, Ops.TRY, 8, 24, Ops.PLUS, 0, 4, Ops.END, 0, 0, Ops.PLUS, 0, 8);
        Ops.program(x, 1, Ops.TRY, 8, 24, Ops.THROW, 0, 0, Ops.PLUS, 0, 8);
        x.submit(0);
        x.submit(1);
        x.submit(7);
        Ops.beatOut(x);
        Ops.runs(x, 0, Ops.STATE, Ops.ENDED);
        Ops.runs(x, 0, Ops.SUM, 4);
        Ops.runs(x, 0, Ops.PLACE, 3);
        Ops.runs(x, 0, Ops.BINDINGS, 0);
        Ops.runs(x, 0, Ops.OVER, 4);
        Ops.runs(x, 1, Ops.STATE, Ops.ENDED);
        Ops.runs(x, 1, Ops.PLACE, 24);
        Ops.runs(x, 1, Ops.OVER, 3);
        Ops.runs(x, 2, Ops.STATE, Ops.ENDED);
        Ops.runs(x, 2, Ops.PLACE, 0);
        Ops.runs(x, 2, Ops.OVER, 4);
    }

    private static void sumWraps() {
        ErrandGuild x = Ops.guild();
        Ops.program(x, 0, Ops.PLUS, 0, Integer.MAX_VALUE, Ops.PLUS, 0, 1, Ops.HAND, 1, 1);
        Ops.program(x, 1, Ops.PLUS, 0, -1);
        x.submit(0);
        x.beat(2);
        Ops.runs(x, 0, Ops.SUM, Integer.MIN_VALUE);
        Ops.beatOut(x);
        Ops.runs(x, 0, Ops.SUM, Integer.MAX_VALUE);
    }

    private static void runArguments() {
        ErrandGuild x = Ops.guild();
        x.submit(0);
        int[] none = {Integer.MIN_VALUE, -1, 13, 14, Integer.MAX_VALUE};
        for (int what : none) {
            Ops.runs(x, 0, what, -1);
        }
        int[] noRuns = {Integer.MIN_VALUE, -1, 1, 199, 200, Integer.MAX_VALUE};
        for (int r : noRuns) {
            for (int what = 0; what < 13; what++) {
                Ops.runs(x, r, what, -1);
            }
        }
    }

    private static void children() {
        ErrandGuild x = Ops.guild();
        Ops.program(x, 0, Ops.HAND, 1, 0, Ops.SPLIT, 2, 2);
        Ops.program(x, 1, Ops.HAND, 2, 0);
        x.submit(0);
        x.submit(0);
        Ops.beatOut(x);
        int[][] rows = {{2, 4, 5}, {3, 6, 7}, {8}, {9}, {}};
        for (int r = 0; r < rows.length; r++) {
            Ops.runs(x, r, Ops.CHILDREN, rows[r].length);
            for (int i = 0; i < 5; i++) {
                Due.is("child(" + r + ", " + i + ")", i < rows[r].length ? rows[r][i] : -1, x.child(r, i));
            }
            Due.is("child(" + r + ", -1)", -1, x.child(r, -1));
            Due.is("child(" + r + ", far)", -1, x.child(r, Integer.MAX_VALUE));
        }
        Due.is("child(-1, 0)", -1, x.child(-1, 0));
        Due.is("child(10, 0)", -1, x.child(10, 0));
    }

    private static void remarks() {
        ErrandGuild x = Ops.guild();
        Ops.program(x, 0, Ops.REMARK, 0, 1, Ops.HAND, 1, 1, Ops.REMARK, 0, -3);
        Ops.program(x, 1, Ops.REMARK, 0, 2);
        x.submit(0);
        x.submit(1);
        Ops.beatOut(x);
        int[] all = {1, 2, -3, 0};
        for (int i = 0; i < all.length; i++) {
            Due.is("remark(0, " + i + ")", all[i], x.remark(0, i));
        }
        Due.is("remark(1, 0)", 2, x.remark(1, 0));
        Due.is("remark(1, 1)", 0, x.remark(1, 1));
        Due.is("remark of a child", 0, x.remark(2, 0));
        Due.is("remark(0, -1)", 0, x.remark(0, -1));
        Due.is("remark(0, far)", 0, x.remark(0, Integer.MAX_VALUE));
        Due.is("remark(-1, 0)", 0, x.remark(-1, 0));
        Due.is("remark(3, 0)", 0, x.remark(3, 0));
    }

    /** No limit of remarks is told, so none may be lost. */
    private static void manyRemarks() {
        ErrandGuild x = Ops.guild();
        x.threads(6);
        Ops.program(x, 0, Ops.SPLIT, 1, 4, Ops.SPLIT, 1, 4, Ops.SPLIT, 1, 4, Ops.SPLIT, 1, 4, Ops.SPLIT, 1, 4,
                Ops.SPLIT, 1, 4, Ops.SPLIT, 1, 4, Ops.SPLIT, 1, 4, Ops.SPLIT, 1, 4, Ops.SPLIT, 1, 4,
                Ops.GATHER, 0, 0);
        for (int i = 0; i < 24; i++) {
            x.step(1, Ops.REMARK, 0, 1000 + i);
        }
        for (int r = 0; r < 4; r++) {
            x.submit(0);
        }
        Ops.beatOut(x);
        for (int root = 0; root < 4; root++) {
            long sum = 0;
            for (int i = 0; i < 960; i++) {
                sum += x.remark(root, i);
            }
            Due.is("sum of the remarks of " + root, 40 * (24 * 1000 + 23 * 12), sum);
            Due.is("remark 960", 0, x.remark(root, 960));
        }
    }

    private static void orderOfTurns() {
        ErrandGuild x = Ops.guild();
        Ops.program(x, 0, Ops.HAND, 1, 1, Ops.PLUS, 0, 1);
        Ops.program(x, 1, Ops.PLUS, 0, 1);
        Ops.program(x, 2, Ops.PLUS, 0, 1, Ops.PLUS, 0, 1, Ops.PLUS, 0, 1, Ops.PLUS, 0, 1, Ops.PLUS, 0, 1);
        x.submit(2);
        x.submit(0);
        Ops.beatOut(x);
        int[] all = {0, 257, 0, 513, 0, 513, 0, 257, 0, 257, 0, 257};
        for (int i = 0; i < all.length; i++) {
            Due.is("order(" + i + ")", all[i], x.order(i));
        }
        Due.is("order behind the last", -1, x.order(all.length));
        Due.is("order(-1)", -1, x.order(-1));
        Due.is("order(far)", -1, x.order(Integer.MAX_VALUE));
        Due.is("count(10)", all.length, x.count(10));
    }

    private static void orderLimit() {
        ErrandGuild x = Ops.guild();
        x.threads(1);
        for (int i = 0; i < 24; i++) {
            x.step(0, Ops.PLUS, 0, 1);
        }
        for (int r = 0; r < 100; r++) {
            x.submit(0);
        }
        Due.is("beats", 2500, Ops.beatOut(x));
        Due.is("count(10)", 2500, x.count(10));
        Due.is("order(1999)", 256 * 79, x.order(1999));
        Due.is("order(1975)", 256 * 79, x.order(1975));
        Due.is("order(1974)", 256 * 78, x.order(1974));
        Due.is("order(2000)", -1, x.order(2000));
    }

    private static void counts() {
        ErrandGuild x = Ops.guild();
        x.threads(3);
        Ops.program(x, 0, Ops.HAND, 1, 1);
        Ops.program(x, 1, Ops.ADD, 0, 0, Ops.ADD, 0, 0, Ops.ADD, 0, 0);
        Ops.program(x, 2, Ops.THROW, 0, 0);
        x.handler(2, 0, 1, false);
        x.submit(0);
        x.submit(2);
        x.submit(3);
        x.submit(1);
        x.submit(1);
        x.submit(1);
        x.beat(2);
        // behind two beats: 0 waits for 6, 1 is failed, 2 is ended, 3, 4 and 5 are on threads, 6 is ready
        int[] counts = {7, 2, 3, 1, 3, 1, 1, 1, 3, 1, 6};
        for (int what = 0; what < counts.length; what++) {
            Due.is("count(" + what + ")", counts[what], x.count(what));
        }
        for (int what = 11; what < 16; what++) {
            Due.is("count(" + what + ")", -1, x.count(what));
        }
        for (int t = 0; t < 3; t++) {
            Due.is("thread " + t, 3 + t, x.count(16 + t));
        }
        int[] none = {Integer.MIN_VALUE, -1, 19, 22, 100, Integer.MAX_VALUE};
        for (int what : none) {
            Due.is("count(" + what + ")", -1, x.count(what));
        }
    }

    /** Tries that lead to the very next place double the turns: the longest that 24 steps can last. */
    private static void longLoops() {
        ErrandGuild x = Ops.guild();
        x.threads(6);
        for (int i = 0; i < 22; i++) {
            x.step(0, Ops.TRY, 8, i + 1);
        }
        x.step(0, Ops.REMARK, 0, 1);
        x.step(0, Ops.THROW, 0, 0);
        for (int r = 0; r < 6; r++) {
            x.submit(0);
        }
        for (int i = 0; i < 490; i++) {
            Due.is("beat(100)", 100, x.beat(100));
        }
        Due.is("count(4)", 6, x.count(4));
        Due.is("count(10)", 6 * 49000, x.count(10));
        Due.is("a late remark", 1, x.remark(5, 10000));
        Due.is("no more than 24 are open", true, x.run(0, Ops.TRIES) <= 24);
    }
}
