/** The manners of SLOTS and BINDINGS, and promises 15 (value) and 16 (seen). */
public final class SlotsTest {
    public static void main(String[] args) {
        everySlotInEveryManner();
        ownEndsWithTheThread();
        inheritedGoesDown();
        sharedIsOneForTheRoot();
        boundEndsWithItsScope();
        bindingsSinceATryEnd();
        wrongBindings();
        wipedStaysWithTheRun();
        firstOfTheRoot();
        whatIsReadIsKeptAsItIsHanded();
        valueArguments();
        seen();
        seenLimit();
        Due.close("SlotsTest");
    }

    /** Bound (else nothing), written, read, handed, read in the child, and read again behind the wait. */
    private static void everySlotInEveryManner() {
        int[][] reads = {{40, 30, 30}, {40, 40, 40}, {40, 40, 41}, {40, 40, 40}, {40, 30, 40}};
        for (int s = 0; s < 8; s++) {
            for (int manner = 0; manner < 5; manner++) {
                ErrandGuild x = new ErrandGuild();
                x.slot(s, manner, 30);
                boolean isBound = manner == Ops.BOUND;
                Ops.program(x, 0, isBound ? Ops.BIND : Ops.PLUS, s, 0, Ops.WRITE, s, 40, Ops.ADD, s, 0,
                        Ops.HAND, 1, 1, Ops.ADD, s, 0);
                Ops.program(x, 1, Ops.ADD, s, 0, isBound ? Ops.BIND : Ops.WRITE, s, 41);
                x.submit(0);
                Ops.beatOut(x);
                for (int i = 0; i < 3; i++) {
                    Due.is("slot " + s + " of manner " + manner + ", reading " + i, reads[manner][i], x.seen(i, 2));
                    Due.is("slot of reading " + i, s, x.seen(i, 1));
                }
                Due.is("count(8)", 3, x.count(8));
            }
        }
    }

    private static void ownEndsWithTheThread() {
        ErrandGuild x = Ops.guild();
        Ops.program(x, 0, Ops.WRITE, 0, 5, Ops.ADD, 0, 0, Ops.HAND, 1, 1, Ops.ADD, 0, 0, Ops.WRITE, 0, 6);
        Ops.program(x, 1, Ops.ADD, 0, 0);
        x.submit(0);
        x.beat(2);
        Due.is("own, written", 5, x.value(0, 0));
        x.beat(1);
        Ops.runs(x, 0, Ops.STATE, Ops.WAITS);
        Due.is("own of one that waits", 10, x.value(0, 0));
        x.beat(2);
        Ops.runs(x, 0, Ops.STATE, Ops.READY);
        Due.is("own of one that is ready", 10, x.value(0, 0));
        x.first(0, 20);
        Due.is("own reads the first as it is", 20, x.value(0, 0));
        x.beat(3);
        Due.is("own, written again", 6, x.value(0, 0));
        x.beat(1);
        Ops.runs(x, 0, Ops.STATE, Ops.ENDED);
        Due.is("own of one that is ended", 20, x.value(0, 0));
        Due.is("own before the wait", 5, x.seen(0, 2));
        Due.is("own of the child", 10, x.seen(1, 2));
        Due.is("own behind the wait", 20, x.seen(2, 2));
    }

    private static void inheritedGoesDown() {
        ErrandGuild x = Ops.guild();
        Ops.program(x, 0, Ops.HAND, 1, 0, Ops.WRITE, 1, 5, Ops.HAND, 1, 0, Ops.WRITE, 1, 6, Ops.GATHER, 0, 0,
                Ops.ADD, 1, 0);
        Ops.program(x, 1, Ops.ADD, 1, 0, Ops.WRITE, 1, 7, Ops.ADD, 1, 0);
        x.submit(0);
        Ops.beatOut(x);
        Due.is("what the giver had before it wrote", 11, x.seen(0, 2));
        Due.is("inherited of the ended giver", 6, x.value(0, 1));
        Due.is("inherited of the ended child", 7, x.value(1, 1));
        Ops.runs(x, 1, Ops.SUM, 11 + 7);
        Ops.runs(x, 2, Ops.SUM, 5 + 7);
        Ops.runs(x, 0, Ops.SUM, 18 + 12 + 6);
    }

    private static void sharedIsOneForTheRoot() {
        ErrandGuild x = Ops.guild();
        Ops.program(x, 0, Ops.ADD, 2, 0, Ops.HAND, 1, 1, Ops.ADD, 2, 0);
        Ops.program(x, 1, Ops.HAND, 2, 1);
        Ops.program(x, 2, Ops.WRITE, 2, 77);
        x.submit(0);
        x.submit(3);
        x.beat(1);
        x.first(2, 40);
        Due.is("shared reads the first as it is", 40, x.value(0, 2));
        Ops.beatOut(x);
        Ops.runs(x, 0, Ops.SUM, 12 + 77);
        for (int r : new int[] {0, 2, 3}) {
            Due.is("shared in run " + r, 77, x.value(r, 2));
        }
        Due.is("shared in another root", 40, x.value(1, 2));
        x.first(2, 41);
        Due.is("shared, written, does not ask the first", 77, x.value(0, 2));
    }

    private static void boundEndsWithItsScope() {
        ErrandGuild x = Ops.guild();
        x.slot(5, Ops.BOUND, 15);
        Ops.program(x, 0, Ops.BIND, 3, 1, Ops.BIND, 5, 2, Ops.BIND, 3, 3, Ops.WRITE, 5, 4, Ops.WRITE, 3, 9,
                Ops.HAND, 1, 0, Ops.FREE, 3, 0, Ops.FREE, 5, 0, Ops.FREE, 3, 0, Ops.GATHER, 0, 0);
        Ops.program(x, 1, Ops.ADD, 3, 0, Ops.ADD, 5, 0, Ops.BIND, 3, 50, Ops.ADD, 3, 0, Ops.WRITE, 5, 1);
        x.submit(0);
        int[] open = {1, 2, 3, 3, 3, 3, 2, 1, 0};
        int[] three = {1, 1, 3, 3, 9, 9, 1, 1, 13};
        int[] five = {15, 2, 2, 4, 4, 4, 4, 15, 15};
        for (int i = 0; i < open.length; i++) {
            x.beat(1);
            Ops.runs(x, 0, Ops.BINDINGS, open[i]);
            Due.is("slot 3 behind step " + i, three[i], x.value(0, 3));
            Due.is("slot 5 behind step " + i, five[i], x.value(0, 5));
        }
        Ops.beatOut(x);
        Ops.runs(x, 1, Ops.SUM, 9 + 4 + 50);
        Ops.runs(x, 1, Ops.BINDINGS, 0);
        Ops.fails(x, 1, Ops.KIND, Ops.WRONG);
        Ops.fails(x, 1, Ops.STEP, 4);
        Due.is("bound of the failed child", 9, x.value(1, 3));
    }

    private static void bindingsSinceATryEnd() {
        ErrandGuild x = Ops.guild();
        // the binding that was open as the try opened is freed and another opened in its place
        Ops.program(x, 0, Ops.BIND, 3, 1, Ops.TRY, 0, 6, Ops.FREE, 3, 0, Ops.BIND, 3, 2, Ops.BIND, 3, 3,
                Ops.THROW, 0, 0, Ops.ADD, 3, 0);
        Ops.program(x, 1, Ops.BIND, 3, 1, Ops.TRY, 0, 4, Ops.BIND, 3, 2, Ops.THROW, 0, 0, Ops.ADD, 3, 0);
        Ops.program(x, 2, Ops.BIND, 3, 1, Ops.TRY, 0, 6, Ops.BIND, 3, 2, Ops.TRY, 1, 6, Ops.BIND, 3, 3,
                Ops.THROW, 1, 0, Ops.ADD, 3, 0);
        x.threads(3);
        x.submit(0);
        x.submit(1);
        x.submit(2);
        x.beat(4);
        Ops.runs(x, 1, Ops.BINDINGS, 1);
        Due.is("the binding from before the try", 1, x.value(1, 3));
        x.beat(2);
        Ops.runs(x, 0, Ops.BINDINGS, 0);
        Ops.runs(x, 0, Ops.TRIES, 0);
        Due.is("no binding from before the try is left", 13, x.value(0, 3));
        Ops.runs(x, 2, Ops.BINDINGS, 2);
        Ops.runs(x, 2, Ops.TRIES, 1);
        Due.is("bindings from before the inner try", 2, x.value(2, 3));
        Ops.beatOut(x);
        Ops.runs(x, 0, Ops.SUM, 13);
        Ops.runs(x, 1, Ops.SUM, 1);
        Ops.runs(x, 2, Ops.SUM, 2);
        Ops.runs(x, 2, Ops.BINDINGS, 0);
    }

    private static void wrongBindings() {
        int[][] wrong = {
            {Ops.BIND, 0, 1}, {Ops.BIND, 1, 1}, {Ops.BIND, 2, 1}, {Ops.BIND, 4, 1}, {Ops.FREE, 3, 0},
            {Ops.FREE, 0, 0}, {Ops.WRITE, 3, 1}, {Ops.DONE, 0, 0},
        };
        for (int[] step : wrong) {
            ErrandGuild x = Ops.guild();
            Ops.program(x, 0, step);
            x.submit(0);
            Due.is("beats", 1, x.beat(10));
            Ops.fails(x, 0, Ops.KIND, Ops.WRONG);
        }
        ErrandGuild x = Ops.guild();
        x.slot(5, Ops.BOUND, 15);
        Ops.program(x, 0, Ops.BIND, 3, 1, Ops.BIND, 5, 2, Ops.FREE, 3, 0);
        Ops.program(x, 1, Ops.BIND, 3, 1, Ops.WRITE, 5, 2);
        Ops.program(x, 2, Ops.BIND, 3, 1, Ops.HAND, 3, 1);
        Ops.program(x, 3, Ops.FREE, 3, 0);
        for (int e = 0; e < 3; e++) {
            x.submit(e);
        }
        Ops.beatOut(x);
        Ops.fails(x, 0, Ops.KIND, Ops.WRONG);
        Ops.fails(x, 0, Ops.STEP, 2);
        Ops.fails(x, 1, Ops.KIND, Ops.WRONG);
        Ops.fails(x, 1, Ops.STEP, 1);
        Ops.fails(x, 3, Ops.KIND, Ops.WRONG);
        Due.is("the giver's binding is not freed by a child", 0, x.run(3, Ops.BINDINGS));
    }

    private static void wipedStaysWithTheRun() {
        ErrandGuild x = Ops.guild();
        Ops.program(x, 0, Ops.WRITE, 4, 5, Ops.HAND, 1, 1, Ops.ADD, 4, 0);
        Ops.program(x, 1, Ops.ADD, 4, 0);
        x.submit(0);
        x.beat(2);
        Due.is("wiped of one that waits", 5, x.value(0, 4));
        x.first(4, 30);
        Ops.beatOut(x);
        Ops.runs(x, 1, Ops.SUM, 30);
        Ops.runs(x, 0, Ops.SUM, 35);
        Due.is("wiped of one that is ended", 5, x.value(0, 4));
        Due.is("wiped of the child", 30, x.value(1, 4));
    }

    private static void firstOfTheRoot() {
        ErrandGuild x = Ops.guild();
        Ops.program(x, 0, Ops.HAND, 1, 1);
        Ops.program(x, 1, Ops.ADD, 1, 0, Ops.ADD, 3, 0);
        x.submit(0);
        x.first(1, 21);
        x.first(3, 23);
        Ops.beatOut(x);
        Ops.runs(x, 1, Ops.SUM, 11 + 13);
        x.submit(0);
        Ops.beatOut(x);
        Ops.runs(x, 3, Ops.SUM, 21 + 23);
    }

    private static void whatIsReadIsKeptAsItIsHanded() {
        ErrandGuild x = Ops.guild();
        Ops.program(x, 0, Ops.WRITE, 1, 1, Ops.BIND, 3, 2, Ops.HAND, 1, 0, Ops.WRITE, 1, 3, Ops.WRITE, 3, 4,
                Ops.FREE, 3, 0, Ops.GATHER, 0, 0);
        Ops.program(x, 1, Ops.PLUS, 0, 0, Ops.PLUS, 0, 0, Ops.PLUS, 0, 0, Ops.HAND, 2, 1);
        Ops.program(x, 2, Ops.ADD, 1, 0, Ops.ADD, 3, 0);
        x.submit(0);
        Ops.beatOut(x);
        Ops.runs(x, 2, Ops.SUM, 3);
        Due.is("inherited of the grandchild", 1, x.value(2, 1));
        Due.is("bound of the grandchild", 2, x.value(2, 3));
    }

    private static void valueArguments() {
        ErrandGuild x = Ops.guild();
        x.submit(0);
        int[] none = {Integer.MIN_VALUE, -1, 8, Integer.MAX_VALUE};
        for (int s : none) {
            Due.is("value(0, " + s + ")", 0, x.value(0, s));
        }
        int[] noRuns = {Integer.MIN_VALUE, -1, 1, 200, Integer.MAX_VALUE};
        for (int r : noRuns) {
            Due.is("value(" + r + ", 0)", 0, x.value(r, 0));
        }
        Due.is("value(0, 0)", 10, x.value(0, 0));
    }

    private static void seen() {
        ErrandGuild x = Ops.guild();
        x.first(4, -1);
        Ops.program(x, 0, Ops.PLUS, 0, 1, Ops.ADD, 4, 0);
        Ops.program(x, 1, Ops.ADD, 1, 0, Ops.PLUS, 0, 0);
        x.submit(0);
        x.submit(1);
        Ops.beatOut(x);
        int[][] rows = {{1, 1, 11, 0}, {0, 4, -1, 1}};
        for (int i = 0; i < rows.length; i++) {
            for (int what = 0; what < 4; what++) {
                Due.is("seen(" + i + ", " + what + ")", rows[i][what], x.seen(i, what));
            }
            Due.is("seen(" + i + ", -1)", -1, x.seen(i, -1));
            Due.is("seen(" + i + ", 4)", -1, x.seen(i, 4));
        }
        Ops.runs(x, 0, Ops.SUM, 0);
        int[] none = {Integer.MIN_VALUE, -1, 2, 1 << 30, Integer.MAX_VALUE};
        for (int i : none) {
            Due.is("seen(" + i + ", 0)", -1, x.seen(i, 0));
        }
        Due.is("count(8)", 2, x.count(8));
    }

    private static void seenLimit() {
        ErrandGuild x = Ops.guild();
        for (int i = 0; i < 24; i++) {
            x.step(0, Ops.ADD, i % 5, 0);
        }
        for (int r = 0; r < 50; r++) {
            x.submit(0);
        }
        Ops.beatOut(x);
        Due.is("count(8)", 1200, x.count(8));
        Due.is("seen(999, 1)", true, x.seen(999, 1) >= 0);
        Due.is("seen(1000, 0)", -1, x.seen(1000, 0));
        Due.is("seen(1199, 0)", -1, x.seen(1199, 0));
        // two runs at a time: the 1000th reading is the second of the 500th pair, 20 pairs of 24 steps before
        Due.is("seen(999, 0)", 41, x.seen(999, 0));
        Due.is("seen(999, 3)", 19, x.seen(999, 3));
    }
}
