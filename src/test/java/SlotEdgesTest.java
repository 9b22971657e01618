/** The edges that the first part of 'Terms' names: SLOTS, ERRANDS, RUNS and what a SLOT READS. */
public final class SlotEdgesTest {
    /** A value that was written counts as written, whatever it is: also the FIRST, and what could stand for none. */
    private static final int[] VALUES = {0, -1, 1, 30, Integer.MIN_VALUE, Integer.MAX_VALUE};

    public static void main(String[] args) {
        slotsAtFirst();
        fiveManners();
        errandsAndTheirRows();
        rootAndDepth();
        numbersOfRuns();
        sumAtFirst();
        sumWraps();
        ownOnItsThread();
        ownOnTheSameThreadAgain();
        ownIsNotLeftForTheNext();
        inheritedOfARoot();
        inheritedWritten();
        sharedOfARoot();
        sharedIsNotOfAnotherRoot();
        boundInnermost();
        boundOfTheGiver();
        wipedWritten();
        anyValueCountsAsWritten();
        firstAsItIs();
        firstOfTheRoot();
        whatTheGiverWouldHaveRead();
        Due.close("SlotEdgesTest");
    }

    private static void slotsAtFirst() {
        Doc.says("SLOTS 0 to 7, each of a MANNER, with a FIRST value (at first OWN, 0)");
        for (int s = 0; s <= 7; s++) {
            ErrandGuild x = new ErrandGuild();
            Ops.program(x, 0, Ops.WRITE, s, 5, Ops.HAND, 1, 1, Ops.ADD, s, 0, Ops.BIND, s, 1);
            Ops.program(x, 1, Ops.ADD, s, 0);
            x.submit(0);
            Due.is("first of " + s, 0, x.value(0, s));
            x.beat(1);
            Due.is("written in " + s, 5, x.value(0, s));
            Ops.beatOut(x);
            Due.is("a child reads no more than the first of " + s, 0, x.seen(0, 2));
            Due.is("so does the run behind a wait", 0, x.seen(1, 2));
            Ops.fails(x, 0, Ops.KIND, Ops.WRONG);
        }
        ErrandGuild x = new ErrandGuild();
        for (int s : new int[] {-1, 8}) {
            Due.is("no slot " + s, false, x.slot(s, Ops.OWN, 0));
            Due.is("no first of " + s, false, x.first(s, 0));
            Due.is("no step with " + s, -1, x.step(0, Ops.ADD, s, 0));
        }
    }

    private static void fiveManners() {
        Doc.says("0 OWN, 1 INHERITED, 2 SHARED, 3 BOUND, 4 WIPED.");
        // read by a child, by the run behind the wait, and by the run when it is ended
        int[][] reads = {{30, 30, 30}, {40, 40, 40}, {40, 41, 41}, {40, 40, 30}, {30, 40, 40}};
        for (int s = 0; s <= 7; s++) {
            for (int manner = 0; manner <= 4; manner++) {
                ErrandGuild x = new ErrandGuild();
                x.slot(s, manner, 30);
                int write = manner == Ops.BOUND ? Ops.BIND : Ops.WRITE;
                Ops.program(x, 0, write, s, 40, Ops.HAND, 1, 1, Ops.ADD, s, 0);
                Ops.program(x, 1, Ops.ADD, s, 0, write, s, 41);
                x.submit(0);
                Ops.beatOut(x);
                Due.is("slot " + s + " of manner " + manner + " in a child", reads[manner][0], x.seen(0, 2));
                Due.is("slot " + s + " of manner " + manner + " behind a wait", reads[manner][1], x.seen(1, 2));
                Due.is("slot " + s + " of manner " + manner + " at last", reads[manner][2], x.value(0, s));
            }
        }
    }

    private static void errandsAndTheirRows() {
        Doc.says("ERRANDS 0 to 7, rows of at most 24 STEPS.");
        for (int e = 0; e <= 7; e++) {
            ErrandGuild x = new ErrandGuild();
            for (int i = 1; i <= 24; i++) {
                Due.is("step " + i + " of errand " + e, i, x.step(e, Ops.PLUS, 0, 1));
            }
            Due.is("a 25th", -1, x.step(e, Ops.PLUS, 0, 1));
            x.submit(e);
            Due.is("turns of 24 steps", 25, x.beat(100));
            Ops.runs(x, 0, Ops.SUM, 24);
        }
        ErrandGuild x = new ErrandGuild();
        for (int e : new int[] {-1, 8}) {
            Due.is("no errand " + e, -1, x.step(e, Ops.PLUS, 0, 1));
            Due.is("no run of errand " + e, -1, x.submit(e));
        }
    }

    private static void rootAndDepth() {
        Doc.says("given in by a client (its ROOT then is itself) or handed by a RUN, its GIVER (the ROOT is that one's;"
                + " its DEPTH is one more; that of a ROOT is 0)");
        ErrandGuild x = new ErrandGuild();
        Ops.program(x, 0, Ops.HAND, 0, 1);
        x.submit(1);
        x.submit(0);
        Ops.beatOut(x);
        Ops.runs(x, 0, Ops.ROOT, 0);
        Ops.runs(x, 0, Ops.GIVER, -1);
        for (int depth = 0; depth <= 6; depth++) {
            Ops.runs(x, 1 + depth, Ops.DEPTH, depth);
            Ops.runs(x, 1 + depth, Ops.ROOT, 1);
            Ops.runs(x, 1 + depth, Ops.GIVER, depth == 0 ? -1 : depth);
        }
        Due.is("runs", 8, x.count(0));
    }

    private static void numbersOfRuns() {
        Doc.says("RUNS are numbered from 0 on, 200 at most.");
        ErrandGuild x = new ErrandGuild();
        Ops.program(x, 0, Ops.HAND, 1, 0);
        Due.is("the first", 0, x.submit(0));
        Due.is("the second", 1, x.submit(0));
        x.beat(1);
        Due.is("those that were handed are counted with the others", 4, x.submit(1));
        for (int r = 5; r < 200; r++) {
            Due.is("submit", r, x.submit(1));
        }
        Due.is("a 201st", -1, x.submit(1));
        Due.is("count(0)", 200, x.count(0));
        Due.is("the last", Ops.READY, x.run(199, Ops.STATE));
        Due.is("behind the last", -1, x.run(200, Ops.STATE));
    }

    private static void sumAtFirst() {
        Doc.says("Each has a SUM, 0 at first");
        ErrandGuild x = new ErrandGuild();
        Ops.program(x, 0, Ops.PLUS, 0, 5, Ops.HAND, 1, 0);
        x.submit(0);
        Ops.runs(x, 0, Ops.SUM, 0);
        x.beat(2);
        Ops.runs(x, 1, Ops.SUM, 0);
        Ops.beatOut(x);
        Ops.runs(x, 1, Ops.SUM, 0);
    }

    private static void sumWraps() {
        Doc.says("an int (it wraps)");
        ErrandGuild x = new ErrandGuild();
        x.slot(0, Ops.WIPED, Integer.MAX_VALUE);
        Ops.program(x, 0, Ops.PLUS, 0, Integer.MAX_VALUE, Ops.PLUS, 0, 1);
        Ops.program(x, 1, Ops.PLUS, 0, Integer.MIN_VALUE, Ops.PLUS, 0, -1);
        Ops.program(x, 2, Ops.ADD, 0, 0, Ops.ADD, 0, 0);
        Ops.program(x, 3, Ops.SPLIT, 0, 3, Ops.GATHER, 0, 0);
        Ops.program(x, 4, Ops.PLUS, 0, -1, Ops.HAND, 0, 1);
        int[] sums = {Integer.MIN_VALUE, Integer.MAX_VALUE, -2, Integer.MIN_VALUE, Integer.MAX_VALUE};
        for (int e = 0; e < sums.length; e++) {
            Due.is("submit", e, x.submit(e));
        }
        Ops.beatOut(x);
        for (int e = 0; e < sums.length; e++) {
            Ops.runs(x, e, Ops.SUM, sums[e]);
        }
    }

    private static void ownOnItsThread() {
        Doc.says("OWN: what it wrote last since it came to the THREAD that it is ON, else FIRST.");
        ErrandGuild x = Ops.guild();
        Ops.program(x, 0, Ops.ADD, 0, 0, Ops.WRITE, 0, 1, Ops.WRITE, 0, 2, Ops.ADD, 0, 0, Ops.HAND, 1, 1,
                Ops.ADD, 0, 0, Ops.PLUS, 0, 0);
        x.submit(0);
        int[] reads = {10, 1, 2, 2, 10};
        Due.is("before it came to a thread", 10, x.value(0, 0));
        for (int i = 0; i < reads.length; i++) {
            x.beat(1);
            Due.is("behind step " + i, reads[i], x.value(0, 0));
        }
        Ops.runs(x, 0, Ops.STATE, Ops.WAITS);
        x.beat(3);
        Ops.runs(x, 0, Ops.STATE, Ops.ON);
        Due.is("on the next thread", 10, x.value(0, 0));
        Due.is("its readings", 10, x.seen(0, 2));
        Due.is("its readings", 2, x.seen(1, 2));
        Due.is("its readings", 10, x.seen(2, 2));
    }

    private static void ownOnTheSameThreadAgain() {
        ErrandGuild x = Ops.guild();
        x.threads(1);
        Ops.program(x, 0, Ops.WRITE, 0, 1, Ops.HAND, 1, 1, Ops.PLUS, 0, 0, Ops.ADD, 0, 0);
        x.submit(0);
        x.beat(1);
        Ops.runs(x, 0, Ops.THREAD, 0);
        x.beat(3);
        Ops.runs(x, 0, Ops.THREAD, 0);
        Ops.runs(x, 0, Ops.VISITS, 2);
        Due.is("on the same thread again", 10, x.value(0, 0));
        Ops.beatOut(x);
        Due.is("read there", 10, x.seen(0, 2));
    }

    private static void ownIsNotLeftForTheNext() {
        Doc.says("threads that keep nothing");
        ErrandGuild x = Ops.guild();
        x.threads(1);
        Ops.program(x, 0, Ops.WRITE, 0, 1, Ops.WRITE, 1, 1, Ops.WRITE, 2, 1, Ops.BIND, 3, 1, Ops.WRITE, 4, 1);
        Ops.program(x, 1, Ops.ADD, 0, 0, Ops.ADD, 1, 0, Ops.ADD, 2, 0, Ops.ADD, 3, 0, Ops.ADD, 4, 0);
        x.submit(0);
        x.submit(1);
        Ops.beatOut(x);
        for (int s = 0; s < 5; s++) {
            Due.is("reading of slot " + s, 10 + s, x.seen(s, 2));
        }
    }

    private static void inheritedOfARoot() {
        Doc.says("INHERITED: what it wrote last, else what its GIVER would have read as it handed (a ROOT: FIRST).");
        ErrandGuild x = Ops.guild();
        Ops.program(x, 0, Ops.ADD, 1, 0, Ops.HAND, 1, 1, Ops.WRITE, 1, 5, Ops.SPLIT, 1, 2, Ops.WRITE, 1, 6,
                Ops.GATHER, 0, 0);
        Ops.program(x, 1, Ops.HAND, 2, 1);
        Ops.program(x, 2, Ops.ADD, 1, 0);
        x.submit(0);
        Ops.beatOut(x);
        int[] reads = {11, 11, 5, 5};
        for (int i = 0; i < reads.length; i++) {
            Due.is("reading " + i, reads[i], x.seen(i, 2));
        }
        Due.is("readings", 4, x.count(8));
    }

    private static void inheritedWritten() {
        ErrandGuild x = Ops.guild();
        Ops.program(x, 0, Ops.WRITE, 1, 5, Ops.HAND, 1, 1, Ops.ADD, 1, 0);
        Ops.program(x, 1, Ops.WRITE, 1, 6, Ops.WRITE, 1, 7, Ops.ADD, 1, 0);
        x.submit(0);
        Ops.beatOut(x);
        Due.is("the last that it wrote", 7, x.seen(0, 2));
        Due.is("what a child wrote is not the giver's", 5, x.seen(1, 2));
        Due.is("value of the giver", 5, x.value(0, 1));
        Due.is("value of the child", 7, x.value(1, 1));
    }

    private static void sharedOfARoot() {
        Doc.says("SHARED: what was written last in any RUN of its ROOT, else FIRST.");
        ErrandGuild x = Ops.guild();
        x.threads(3);
        Ops.program(x, 0, Ops.ADD, 2, 0, Ops.HAND, 1, 0, Ops.WRITE, 2, 3, Ops.PLUS, 0, 0, Ops.ADD, 2, 0);
        Ops.program(x, 1, Ops.ADD, 2, 0, Ops.WRITE, 2, 4, Ops.ADD, 2, 0);
        x.submit(0);
        x.beat(2);
        Due.is("before any wrote", 12, x.value(1, 2));
        x.beat(1);
        Due.is("the giver wrote", 3, x.value(1, 2));
        x.beat(1);
        Due.is("the child wrote", 4, x.value(0, 2));
        Ops.beatOut(x);
        Due.is("of a run that is over", 4, x.value(0, 2));
        Ops.runs(x, 0, Ops.SUM, 12 + 4);
        Ops.runs(x, 1, Ops.SUM, 3 + 4);
    }

    private static void sharedIsNotOfAnotherRoot() {
        ErrandGuild x = Ops.guild();
        Ops.program(x, 0, Ops.WRITE, 2, 3);
        x.submit(0);
        x.submit(1);
        Ops.beatOut(x);
        x.submit(0);
        Due.is("its own root", 3, x.value(0, 2));
        Due.is("another root", 12, x.value(1, 2));
        Due.is("another root of the same errand", 12, x.value(2, 2));
    }

    private static void boundInnermost() {
        Doc.says("BOUND: the value of the innermost BINDING of it that is open in the RUN,");
        ErrandGuild x = Ops.guild();
        x.slot(5, Ops.BOUND, 15);
        Ops.program(x, 0, Ops.BIND, 3, 1, Ops.BIND, 3, 2, Ops.BIND, 5, 3, Ops.FREE, 5, 0, Ops.FREE, 3, 0,
                Ops.FREE, 3, 0);
        x.submit(0);
        int[] three = {1, 2, 2, 2, 1, 13};
        int[] five = {15, 15, 3, 15, 15, 15};
        for (int i = 0; i < three.length; i++) {
            x.beat(1);
            Due.is("slot 3 behind step " + i, three[i], x.value(0, 3));
            Due.is("slot 5 behind step " + i, five[i], x.value(0, 5));
        }
    }

    private static void boundOfTheGiver() {
        Doc.says("else what its GIVER would have read as it handed (ROOT: FIRST).");
        ErrandGuild x = Ops.guild();
        Ops.program(x, 0, Ops.HAND, 1, 1, Ops.BIND, 3, 1, Ops.HAND, 1, 1, Ops.FREE, 3, 0, Ops.HAND, 1, 1);
        Ops.program(x, 1, Ops.HAND, 2, 1);
        Ops.program(x, 2, Ops.ADD, 3, 0, Ops.BIND, 3, 8, Ops.FREE, 3, 0, Ops.ADD, 3, 0);
        x.submit(0);
        Ops.beatOut(x);
        int[] reads = {13, 13, 1, 1, 13, 13};
        for (int i = 0; i < reads.length; i++) {
            Due.is("reading " + i, reads[i], x.seen(i, 2));
        }
        Due.is("the child of a giver whose binding has ended", 1, x.value(x.child(0, 1), 3));
    }

    private static void wipedWritten() {
        Doc.says("WIPED: what it wrote last, else FIRST.");
        ErrandGuild x = Ops.guild();
        Ops.program(x, 0, Ops.ADD, 4, 0, Ops.WRITE, 4, 1, Ops.WRITE, 4, 2, Ops.HAND, 1, 1, Ops.ADD, 4, 0);
        Ops.program(x, 1, Ops.ADD, 4, 0, Ops.WRITE, 4, 3);
        x.submit(0);
        Ops.beatOut(x);
        int[] reads = {14, 14, 2};
        for (int i = 0; i < reads.length; i++) {
            Due.is("reading " + i, reads[i], x.seen(i, 2));
        }
        Due.is("value of one that is ended", 2, x.value(0, 4));
        Due.is("value of the child", 3, x.value(1, 4));
    }

    private static void anyValueCountsAsWritten() {
        Doc.says("what it wrote last");
        for (int manner = Ops.OWN; manner <= Ops.WIPED; manner++) {
            for (int value : VALUES) {
                ErrandGuild x = new ErrandGuild();
                x.slot(6, manner, 30);
                Ops.program(x, 0, manner == Ops.BOUND ? Ops.BIND : Ops.WRITE, 6, value, Ops.ADD, 6, 0,
                        Ops.WRITE, 6, 77, Ops.WRITE, 6, value, Ops.ADD, 6, 0);
                x.submit(0);
                x.beat(1);
                x.first(6, 31);
                Due.is("manner " + manner, value, x.value(0, 6));
                x.beat(4);
                Due.is("manner " + manner, value, x.value(0, 6));
                Due.is("reading in manner " + manner, value, x.seen(0, 2));
                Due.is("reading in manner " + manner, value, x.seen(1, 2));
            }
        }
    }

    private static void firstAsItIs() {
        Doc.says("(FIRST as it is when the RUN reads;");
        int[] manners = {Ops.OWN, Ops.SHARED, Ops.WIPED};
        for (int s : manners) {
            ErrandGuild x = Ops.guild();
            Ops.program(x, 0, Ops.ADD, s, 0, Ops.ADD, s, 0, Ops.HAND, 1, 1);
            Ops.program(x, 1, Ops.ADD, s, 0);
            x.submit(0);
            x.first(s, 100);
            x.beat(1);
            x.first(s, Integer.MIN_VALUE);
            x.beat(2);
            x.first(s, Integer.MAX_VALUE);
            Ops.beatOut(x);
            int[] reads = {100, Integer.MIN_VALUE, Integer.MAX_VALUE};
            for (int i = 0; i < reads.length; i++) {
                Due.is("slot " + s + ", reading " + i, reads[i], x.seen(i, 2));
            }
            x.first(s, 5);
            Due.is("of one that is over", 5, x.value(0, s));
        }
    }

    private static void firstOfTheRoot() {
        Doc.says("of BOUND and INHERITED as it was when its ROOT was given in.)");
        for (int s : new int[] {Ops.INHERITED, Ops.BOUND}) {
            ErrandGuild x = Ops.guild();
            Ops.program(x, 0, Ops.ADD, s, 0, Ops.HAND, 1, 1, Ops.ADD, s, 0);
            Ops.program(x, 1, Ops.ADD, s, 0);
            x.first(s, 20);
            x.submit(0);
            x.first(s, 21);
            x.submit(0);
            x.first(s, 22);
            Ops.beatOut(x);
            for (int i = 0; i < 6; i++) {
                int root = x.run(x.seen(i, 0), Ops.ROOT);
                Due.is("slot " + s + " in a run of root " + root, 20 + root, x.seen(i, 2));
            }
            Due.is("readings", 6, x.count(8));
            Due.is("value", 20, x.value(0, s));
            Due.is("value of the child", 21, x.value(3, s));
        }
    }

    private static void whatTheGiverWouldHaveRead() {
        Doc.says("What a GIVER would have read is kept as it hands.");
        ErrandGuild x = Ops.guild();
        Ops.program(x, 0, Ops.WRITE, 1, 1, Ops.BIND, 3, 2, Ops.HAND, 1, 0, Ops.WRITE, 1, 3, Ops.WRITE, 3, 4,
                Ops.HAND, 1, 0, Ops.FREE, 3, 0, Ops.HAND, 1, 0);
        Ops.program(x, 1, Ops.PLUS, 0, 0, Ops.PLUS, 0, 0, Ops.PLUS, 0, 0, Ops.PLUS, 0, 0, Ops.PLUS, 0, 0,
                Ops.PLUS, 0, 0, Ops.PLUS, 0, 0, Ops.ADD, 1, 0, Ops.ADD, 3, 0);
        x.submit(0);
        Ops.beatOut(x);
        int[] inherited = {1, 3, 3};
        int[] bound = {2, 4, 13};
        for (int c = 0; c < 3; c++) {
            Ops.runs(x, x.child(0, c), Ops.SUM, inherited[c] + bound[c]);
            Due.is("inherited of child " + c, inherited[c], x.value(x.child(0, c), 1));
            Due.is("bound of child " + c, bound[c], x.value(x.child(0, c), 3));
        }
    }
}
