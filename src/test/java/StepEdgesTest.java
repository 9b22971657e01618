/** The edges that 'Terms' names for the STEPS, one by one, and for FAILURES, TRIES and BINDINGS. */
public final class StepEdgesTest {
    public static void main(String[] args) {
        kinds();
        placeGoesOn();
        writeWithoutABinding();
        writeIntoTheInnermost();
        addIsTold();
        bindOfAnotherManner();
        freeOfTheInnermost();
        handOnAndHandWait();
        splitOneByOne();
        gatherWhatIsLeft();
        deepAboveSix();
        fullAtTwoHundred();
        splitThatIsPartlyHanded();
        remarksGoToTheRoot();
        throwOfAKind();
        tryForAKind();
        tryLeadsBehindTheLast();
        doneWithoutATry();
        doneClosesTheInnermost();
        plus();
        endAndBehindTheLast();
        failureClosesTriesWithin();
        failureEndsBindingsSince();
        failedEndsAllBindings();
        asManyBindingsAsSteps();
        asManyTriesAsSteps();
        Due.close("StepEdgesTest");
    }

    /** A guild whose ERRANDS 0 to 7 fail with KINDS 0 to 7, if 190 or more other RUNS have been given in. */
    private static ErrandGuild guildOfKinds() {
        ErrandGuild x = Ops.guild();
        for (int kind = 0; kind < 4; kind++) {
            Ops.program(x, kind, Ops.THROW, kind, 0);
        }
        Ops.program(x, 5, Ops.DONE, 0, 0);
        Ops.program(x, 6, Ops.HAND, 6, 1);
        Ops.program(x, 7, Ops.SPLIT, 4, 4);
        return x;
    }

    private static void kinds() {
        Doc.says("A FAILURE has a KIND: 0 to 3 thrown; 4 INTERRUPTED; 5 WRONG; 6 DEEP; 7 FULL.");
        for (int kind = 0; kind <= 7; kind++) {
            ErrandGuild x = guildOfKinds();
            x.submit(kind);
            if (kind == 4) {
                x.interrupt(0);
            }
            for (int r = 1; r < 200 && kind == 7; r++) {
                x.submit(4);
            }
            Ops.beatOut(x);
            Ops.fails(x, 0, Ops.KIND, kind);
            Ops.fails(x, 0, Ops.STEP, 0);
        }
    }

    private static void placeGoesOn() {
        Doc.says("STEPS (op a b), done at the RUN's place, which goes on by one:");
        ErrandGuild x = Ops.guild();
        Ops.program(x, 0, Ops.WRITE, 4, 1, Ops.ADD, 4, 0, Ops.BIND, 3, 1, Ops.FREE, 3, 0, Ops.HAND, 1, 0,
                Ops.SPLIT, 1, 2, Ops.REMARK, 0, 1, Ops.TRY, 8, 24, Ops.DONE, 0, 0, Ops.PLUS, 0, 1);
        x.submit(0);
        Ops.runs(x, 0, Ops.PLACE, 0);
        for (int i = 1; i <= 10; i++) {
            x.beat(1);
            Ops.runs(x, 0, Ops.PLACE, i);
            Due.is("steps are done in one turn each", Ops.ON, x.run(0, Ops.STATE));
        }
        x.beat(1);
        Ops.runs(x, 0, Ops.STATE, Ops.ENDED);
        Ops.runs(x, 0, Ops.PLACE, 10);
    }

    private static void writeWithoutABinding() {
        Doc.says("0 WRITE a b: b into SLOT a (BOUND: into the innermost open BINDING of the RUN; without one WRONG).");
        ErrandGuild x = Ops.guild();
        Ops.program(x, 0, Ops.WRITE, 3, 1);
        Ops.program(x, 1, Ops.BIND, 3, 1, Ops.FREE, 3, 0, Ops.WRITE, 3, 2);
        Ops.program(x, 2, Ops.BIND, 3, 1, Ops.HAND, 0, 1);
        for (int e = 0; e < 3; e++) {
            x.submit(e);
        }
        Ops.beatOut(x);
        int[] step = {0, 2, 1, 0};
        for (int r = 0; r < 4; r++) {
            Ops.fails(x, r, Ops.KIND, Ops.WRONG);
            Ops.fails(x, r, Ops.STEP, step[r]);
        }
        Ops.fails(x, 2, Ops.CAUSE, 3);
    }

    private static void writeIntoTheInnermost() {
        ErrandGuild x = Ops.guild();
        Ops.program(x, 0, Ops.BIND, 3, 1, Ops.BIND, 3, 2, Ops.WRITE, 3, 5, Ops.ADD, 3, 0, Ops.FREE, 3, 0,
                Ops.ADD, 3, 0, Ops.WRITE, 3, 6, Ops.ADD, 3, 0, Ops.FREE, 3, 0, Ops.ADD, 3, 0);
        x.submit(0);
        Ops.beatOut(x);
        int[] reads = {5, 1, 6, 13};
        for (int i = 0; i < reads.length; i++) {
            Due.is("reading " + i, reads[i], x.seen(i, 2));
        }
    }

    private static void addIsTold() {
        Doc.says("1 ADD a: what SLOT a READS is added to SUM (and told as a reading).");
        ErrandGuild x = Ops.guild();
        for (int s = 0; s < 5; s++) {
            x.step(0, Ops.ADD, s, 99);
        }
        x.submit(0);
        int sum = 0;
        for (int s = 0; s < 5; s++) {
            x.beat(1);
            sum += 10 + s;
            Ops.runs(x, 0, Ops.SUM, sum);
            int[] row = {0, s, 10 + s, s};
            for (int what = 0; what < 4; what++) {
                Due.is("seen(" + s + ", " + what + ")", row[what], x.seen(s, what));
            }
            Due.is("count(8)", s + 1, x.count(8));
        }
    }

    private static void bindOfAnotherManner() {
        Doc.says("2 BIND a b: a BINDING of SLOT a (BOUND; else WRONG) by b opens.");
        for (int manner = Ops.OWN; manner <= Ops.WIPED; manner++) {
            ErrandGuild x = Ops.guild();
            Ops.program(x, 0, Ops.BIND, manner, 7);
            x.submit(0);
            x.beat(1);
            boolean isBound = manner == Ops.BOUND;
            Ops.runs(x, 0, Ops.STATE, isBound ? Ops.ON : Ops.FAILED);
            Ops.runs(x, 0, Ops.BINDINGS, isBound ? 1 : 0);
            Ops.fails(x, 0, Ops.KIND, isBound ? -1 : Ops.WRONG);
            Due.is("value", isBound ? 7 : 10 + manner, x.value(0, manner));
        }
    }

    private static void freeOfTheInnermost() {
        Doc.says("3 FREE a: the innermost open BINDING of the RUN, if it is SLOT a's, ends; else WRONG.");
        ErrandGuild x = Ops.guild();
        x.slot(5, Ops.BOUND, 15);
        Ops.program(x, 0, Ops.FREE, 3, 0);
        Ops.program(x, 1, Ops.BIND, 3, 1, Ops.BIND, 5, 2, Ops.TRY, 5, 4, Ops.FREE, 3, 0, Ops.PLUS, 0, 1);
        Ops.program(x, 2, Ops.BIND, 3, 1, Ops.FREE, 4, 0);
        Ops.program(x, 3, Ops.BIND, 3, 1, Ops.BIND, 5, 2, Ops.FREE, 5, 0, Ops.FREE, 3, 0, Ops.FREE, 3, 0);
        Ops.program(x, 4, Ops.BIND, 3, 1, Ops.HAND, 0, 1);
        x.threads(6);
        for (int e = 0; e < 5; e++) {
            x.submit(e);
        }
        x.beat(4);
        Ops.runs(x, 1, Ops.PLACE, 4);
        Ops.runs(x, 1, Ops.BINDINGS, 2);
        Due.is("a binding that is not the innermost stays", 1, x.value(1, 3));
        Ops.runs(x, 3, Ops.BINDINGS, 0);
        Ops.beatOut(x);
        int[] steps = {0, -1, 1, 4, 1, 0};
        for (int r = 0; r < steps.length; r++) {
            Ops.fails(x, r, Ops.KIND, steps[r] < 0 ? -1 : Ops.WRONG);
            Ops.fails(x, r, Ops.STEP, steps[r]);
        }
    }

    private static void handOnAndHandWait() {
        Doc.says("4 HAND a b: a RUN of ERRAND a is handed; b 1: the RUN WAITS for it; b 0: it goes on.");
        for (int b = 0; b <= 1; b++) {
            ErrandGuild x = Ops.guild();
            Ops.program(x, 0, Ops.HAND, 7, b, Ops.PLUS, 0, 1);
            Ops.program(x, 7, Ops.PLUS, 0, 20);
            x.submit(0);
            x.beat(1);
            Ops.runs(x, 0, Ops.STATE, b == 1 ? Ops.WAITS : Ops.ON);
            Ops.runs(x, 0, Ops.PLACE, b == 1 ? 0 : 1);
            Ops.runs(x, 0, Ops.THREAD, b == 1 ? -1 : 0);
            Ops.runs(x, 1, Ops.ERRAND, 7);
            Ops.runs(x, 1, Ops.STATE, Ops.READY);
            Ops.beatOut(x);
            Ops.runs(x, 0, Ops.SUM, b == 1 ? 21 : 1);
        }
    }

    private static void splitOneByOne() {
        Doc.says("5 SPLIT a b: b RUNS (2 to 4) of ERRAND a, one by one, as HAND a 0.");
        for (int b = 2; b <= 4; b++) {
            ErrandGuild x = Ops.guild();
            Ops.program(x, 0, Ops.PLUS, 0, 0, Ops.SPLIT, 7, b);
            Ops.program(x, 7, Ops.THROW, 0, 0);
            x.submit(0);
            x.beat(2);
            Ops.runs(x, 0, Ops.STATE, Ops.ON);
            Ops.runs(x, 0, Ops.PLACE, 2);
            Ops.runs(x, 0, Ops.CHILDREN, b);
            Due.is("runs", 1 + b, x.count(0));
            Ops.beatOut(x);
            for (int c = 1; c <= b; c++) {
                Due.is("child", c, x.child(0, c - 1));
                Ops.runs(x, c, Ops.ERRAND, 7);
                Due.is("trace", 1, x.trace(c, 1));
                Ops.fails(x, c, Ops.UNCAUGHT, 1);
            }
            Due.is("child", -1, x.child(0, b));
        }
    }

    private static void gatherWhatIsLeft() {
        Doc.says("6 GATHER: it WAITS for all children that it has not waited for or gathered.");
        ErrandGuild x = Ops.guild();
        x.threads(6);
        Ops.program(x, 0, Ops.HAND, 1, 1, Ops.HAND, 2, 0, Ops.GATHER, 0, 0, Ops.HAND, 3, 0, Ops.GATHER, 0, 0,
                Ops.GATHER, 0, 0);
        Ops.program(x, 1, Ops.PLUS, 0, 1);
        Ops.program(x, 2, Ops.PLUS, 0, 10);
        Ops.program(x, 3, Ops.PLUS, 0, 100);
        x.submit(0);
        Ops.beatOut(x);
        // each child is taken once: 1 by the wait, 2 by the first gather, 3 by the second, none by the third
        Ops.runs(x, 0, Ops.SUM, 111);
        Ops.runs(x, 0, Ops.VISITS, 4);
        Ops.runs(x, 0, Ops.PLACE, 6);
    }

    private static void deepAboveSix() {
        Doc.says("DEPTH would be above 6: DEEP.");
        for (int b = 1; b <= 4; b++) {
            ErrandGuild x = Ops.guild();
            boolean isHand = b == 1;
            // errands 2 to 7 hand down from depth 0 to 6, where errand 1 would hand once more
            Ops.program(x, 2, Ops.HAND, 3, 1);
            Ops.program(x, 3, Ops.HAND, 4, 1);
            Ops.program(x, 4, Ops.HAND, 5, 1);
            Ops.program(x, 5, Ops.HAND, 6, 1);
            Ops.program(x, 6, Ops.HAND, 7, 1);
            Ops.program(x, 7, Ops.HAND, 1, 1);
            Ops.program(x, 1, Ops.TRY, 6, 2, isHand ? Ops.HAND : Ops.SPLIT, 0, b, Ops.PLUS, 0, 8);
            x.submit(2);
            Ops.beatOut(x);
            Due.is("runs", 7, x.count(0));
            Ops.runs(x, 6, Ops.DEPTH, 6);
            Ops.runs(x, 6, Ops.STATE, Ops.ENDED);
            Ops.runs(x, 6, Ops.CHILDREN, 0);
            Ops.runs(x, 6, Ops.VISITS, 1);
            Ops.runs(x, 0, Ops.SUM, 8);
        }
    }

    /** ERRAND 0 comes to its STEP in the second BEAT, when room is left for so many. */
    private static ErrandGuild guildWithRoomFor(int room, int op, int b) {
        ErrandGuild x = Ops.guild();
        Ops.program(x, 0, Ops.TRY, 7, 3, op, 1, b, Ops.END, 0, 0, Ops.PLUS, 0, 8);
        x.submit(0);
        for (int r = 1; r < 200 - room; r++) {
            x.submit(1);
        }
        x.beat(2);
        return x;
    }

    private static void fullAtTwoHundred() {
        Doc.says("200 RUNS are there: FULL.");
        for (int b = 0; b <= 1; b++) {
            ErrandGuild last = guildWithRoomFor(1, Ops.HAND, b);
            Due.is("the 200th is handed", 200, last.count(0));
            Ops.runs(last, 199, Ops.GIVER, 0);
            Ops.runs(last, 0, Ops.STATE, b == 1 ? Ops.WAITS : Ops.ON);
            Ops.runs(last, 0, Ops.TRIES, 1);
            ErrandGuild full = guildWithRoomFor(0, Ops.HAND, b);
            Due.is("none is handed", 200, full.count(0));
            Ops.runs(full, 0, Ops.STATE, Ops.ON);
            Ops.runs(full, 0, Ops.PLACE, 3);
            Ops.runs(full, 0, Ops.TRIES, 0);
            Ops.runs(full, 0, Ops.CHILDREN, 0);
        }
    }

    private static void splitThatIsPartlyHanded() {
        Doc.says("Of SPLIT some may have been handed then.");
        for (int room = 0; room <= 4; room++) {
            for (int b = 2; b <= 4; b++) {
                ErrandGuild x = guildWithRoomFor(room, Ops.SPLIT, b);
                int handed = Math.min(room, b);
                boolean isFull = room < b;
                Ops.runs(x, 0, Ops.CHILDREN, handed);
                Due.is("runs", 200 - room + handed, x.count(0));
                Ops.runs(x, 0, Ops.PLACE, isFull ? 3 : 2);
                Ops.runs(x, 0, Ops.TRIES, isFull ? 0 : 1);
                for (int i = 0; i < handed; i++) {
                    Due.is("child", 200 - room + i, x.child(0, i));
                    Ops.runs(x, x.child(0, i), Ops.STATE, Ops.READY);
                }
                Due.is("child", -1, x.child(0, handed));
            }
        }
    }

    private static void remarksGoToTheRoot() {
        Doc.says("7 REMARK b: b comes to the ROOT's remarks.");
        ErrandGuild x = Ops.guild();
        Ops.program(x, 0, Ops.REMARK, 99, 1, Ops.HAND, 1, 1, Ops.REMARK, 99, 4);
        Ops.program(x, 1, Ops.REMARK, 99, 2, Ops.HAND, 2, 1);
        Ops.program(x, 2, Ops.REMARK, 99, Integer.MIN_VALUE);
        x.submit(0);
        x.submit(2);
        Ops.beatOut(x);
        int[] all = {1, 2, Integer.MIN_VALUE, 4, 0};
        for (int i = 0; i < all.length; i++) {
            Due.is("remark(0, " + i + ")", all[i], x.remark(0, i));
        }
        Due.is("another root's", Integer.MIN_VALUE, x.remark(1, 0));
        Due.is("another root's", 0, x.remark(1, 1));
    }

    private static void throwOfAKind() {
        Doc.says("8 THROW a: FAILURE a (0 to 3).");
        ErrandGuild x = Ops.guild();
        for (int kind = 0; kind <= 3; kind++) {
            Ops.program(x, kind, Ops.PLUS, 0, 1, Ops.THROW, kind, 99, Ops.PLUS, 0, 1);
        }
        Due.is("no such kind", -1, x.step(4, Ops.THROW, 4, 0));
        for (int e = 0; e <= 3; e++) {
            x.submit(e);
        }
        Ops.beatOut(x);
        for (int r = 0; r <= 3; r++) {
            int[] failure = {r, 1, -1, 0, 1};
            for (int what = 0; what < 5; what++) {
                Ops.fails(x, r, what, failure[what]);
            }
            Ops.runs(x, r, Ops.SUM, 1);
        }
    }

    private static void tryForAKind() {
        Doc.says("9 TRY a b: a TRY opens, for KIND a (8: all), with its place b.");
        for (int kind = 0; kind <= 7; kind++) {
            for (int of = 0; of <= 8; of++) {
                ErrandGuild x = Ops.guild();
                int[][] fails = {{Ops.THROW, 0, 0}, {Ops.THROW, 1, 0}, {Ops.THROW, 2, 0}, {Ops.THROW, 3, 0},
                    {Ops.PLUS, 0, 0}, {Ops.BIND, 0, 0}, {Ops.HAND, 0, 1}, {Ops.SPLIT, 1, 4}};
                Ops.program(x, 0, Ops.TRY, of, 3);
                Ops.program(x, 0, fails[kind]);
                Ops.program(x, 0, Ops.END, 0, 0, Ops.PLUS, 0, 1, Ops.PLUS, 0, 0);
                x.submit(0);
                x.beat(1);
                if (kind == 4) {
                    x.interrupt(0);
                }
                for (int r = 1; r < 199 && kind == 7; r++) {
                    x.submit(1);
                }
                Ops.beatOut(x);
                int failed = kind == 6 ? 6 : 0;
                boolean isCaught = of == kind || of == 8;
                Ops.runs(x, failed, Ops.STATE, isCaught ? Ops.ENDED : Ops.FAILED);
                Ops.runs(x, failed, Ops.SUM, isCaught ? 1 : 0);
                Ops.fails(x, failed, Ops.KIND, isCaught ? -1 : kind);
            }
        }
    }

    private static void tryLeadsBehindTheLast() {
        for (int b = 2; b <= 24; b++) {
            ErrandGuild x = Ops.guild();
            Ops.program(x, 0, Ops.TRY, 8, b, Ops.THROW, 0, 0);
            x.submit(0);
            x.beat(2);
            Ops.runs(x, 0, Ops.STATE, Ops.ON);
            Ops.runs(x, 0, Ops.PLACE, b);
            Due.is("beats", 1, x.beat(9));
            Ops.runs(x, 0, Ops.STATE, Ops.ENDED);
            Ops.runs(x, 0, Ops.PLACE, b);
        }
    }

    private static void doneWithoutATry() {
        Doc.says("10 DONE: the innermost open TRY closes; without one WRONG.");
        ErrandGuild x = Ops.guild();
        Ops.program(x, 0, Ops.DONE, 0, 0);
        Ops.program(x, 1, Ops.TRY, 8, 2, Ops.DONE, 0, 0, Ops.DONE, 0, 0);
        Ops.program(x, 2, Ops.TRY, 8, 2, Ops.THROW, 0, 0, Ops.DONE, 0, 0);
        Ops.program(x, 3, Ops.TRY, 0, 3, Ops.HAND, 0, 1);
        for (int e = 0; e < 4; e++) {
            x.submit(e);
        }
        Ops.beatOut(x);
        int[] steps = {0, 2, 2, 1, 0};
        for (int r = 0; r < steps.length; r++) {
            Ops.fails(x, r, Ops.KIND, Ops.WRONG);
            Ops.fails(x, r, Ops.STEP, steps[r]);
        }
    }

    private static void doneClosesTheInnermost() {
        ErrandGuild x = Ops.guild();
        Ops.program(x, 0, Ops.TRY, 0, 5, Ops.TRY, 0, 6, Ops.BIND, 3, 1, Ops.DONE, 0, 0, Ops.THROW, 0, 0,
                Ops.PLUS, 0, 1, Ops.PLUS, 0, 2);
        x.submit(0);
        x.beat(4);
        Ops.runs(x, 0, Ops.TRIES, 1);
        Ops.runs(x, 0, Ops.BINDINGS, 1);
        Due.is("a binding outlives the done", 1, x.value(0, 3));
        x.beat(1);
        Ops.runs(x, 0, Ops.PLACE, 5);
        Ops.runs(x, 0, Ops.BINDINGS, 0);
        Ops.beatOut(x);
        Ops.runs(x, 0, Ops.SUM, 3);
    }

    private static void plus() {
        Doc.says("11 PLUS b: b is added to SUM.");
        for (int b : new int[] {0, 1, -1, Integer.MIN_VALUE, Integer.MAX_VALUE}) {
            ErrandGuild x = Ops.guild();
            Ops.program(x, 0, Ops.PLUS, 77, b, Ops.PLUS, 77, b);
            x.submit(0);
            Ops.beatOut(x);
            Ops.runs(x, 0, Ops.SUM, b + b);
        }
    }

    private static void endAndBehindTheLast() {
        Doc.says("12 END, and a turn at a place behind the last STEP: the RUN is ENDED; its ANSWER is SUM.");
        ErrandGuild x = Ops.guild();
        x.threads(4);
        Ops.program(x, 0, Ops.PLUS, 0, 5, Ops.END, 9, 9, Ops.PLUS, 0, 100);
        Ops.program(x, 1, Ops.PLUS, 0, 6);
        Ops.program(x, 3, Ops.HAND, 0, 1, Ops.HAND, 1, 1, Ops.HAND, 2, 1);
        for (int e = 0; e < 4; e++) {
            x.submit(e);
        }
        Ops.beatOut(x);
        int[] sums = {5, 6, 0, 11};
        int[] places = {1, 1, 0, 3};
        int[] over = {2, 2, 1, 12};
        for (int r = 0; r < 4; r++) {
            Ops.runs(x, r, Ops.STATE, Ops.ENDED);
            Ops.runs(x, r, Ops.SUM, sums[r]);
            Ops.runs(x, r, Ops.PLACE, places[r]);
            Ops.runs(x, r, Ops.OVER, over[r]);
        }
    }

    private static void failureClosesTriesWithin() {
        Doc.says("A FAILURE at a STEP: of the open TRIES the innermost that is for its KIND: it and those within it"
                + " close,");
        ErrandGuild x = Ops.guild();
        Ops.program(x, 0, Ops.TRY, 8, 10, Ops.TRY, 1, 9, Ops.TRY, 1, 7, Ops.TRY, 2, 6, Ops.TRY, 3, 6,
                Ops.THROW, 1, 0, Ops.END, 0, 0, Ops.THROW, 1, 0, Ops.END, 0, 0, Ops.THROW, 1, 0, Ops.THROW, 1, 0);
        x.submit(0);
        x.beat(5);
        int[] tries = {5, 2, 1, 0};
        int[] places = {5, 7, 9, 10};
        for (int i = 0; i < tries.length; i++) {
            Ops.runs(x, 0, Ops.TRIES, tries[i]);
            Ops.runs(x, 0, Ops.PLACE, places[i]);
            Ops.runs(x, 0, Ops.STATE, Ops.ON);
            x.beat(1);
        }
        Ops.runs(x, 0, Ops.STATE, Ops.FAILED);
        Ops.fails(x, 0, Ops.STEP, 10);
    }

    private static void failureEndsBindingsSince() {
        Doc.says("BINDINGS that opened since it did end, the RUN goes on at its place b.");
        ErrandGuild x = Ops.guild();
        x.threads(3);
        // none since; two since; one from before that was freed, and two since
        Ops.program(x, 0, Ops.BIND, 3, 1, Ops.TRY, 8, 3, Ops.THROW, 0, 0, Ops.PLUS, 0, 0);
        Ops.program(x, 1, Ops.BIND, 3, 1, Ops.TRY, 8, 5, Ops.BIND, 3, 2, Ops.BIND, 3, 3, Ops.THROW, 0, 0);
        Ops.program(x, 2, Ops.BIND, 3, 1, Ops.BIND, 3, 2, Ops.TRY, 8, 7, Ops.FREE, 3, 0, Ops.BIND, 3, 3,
                Ops.BIND, 3, 4, Ops.THROW, 0, 0, Ops.PLUS, 0, 0);
        x.submit(0);
        x.submit(1);
        x.submit(2);
        x.beat(3);
        Ops.runs(x, 0, Ops.BINDINGS, 1);
        Ops.runs(x, 0, Ops.PLACE, 3);
        x.beat(2);
        Ops.runs(x, 1, Ops.BINDINGS, 1);
        Due.is("value", 1, x.value(1, 3));
        x.beat(2);
        Ops.runs(x, 2, Ops.BINDINGS, 1);
        Due.is("value", 1, x.value(2, 3));
    }

    private static void failedEndsAllBindings() {
        Doc.says("Without one the RUN is FAILED, all BINDINGS end; so do they at ENDED.");
        ErrandGuild x = Ops.guild();
        Ops.program(x, 0, Ops.BIND, 3, 1, Ops.BIND, 3, 2, Ops.TRY, 1, 4, Ops.THROW, 0, 0);
        Ops.program(x, 1, Ops.BIND, 3, 1, Ops.BIND, 3, 2, Ops.END, 0, 0);
        Ops.program(x, 2, Ops.BIND, 3, 1, Ops.BIND, 3, 2, Ops.PLUS, 0, 0);
        Ops.program(x, 3, Ops.BIND, 3, 1, Ops.HAND, 2, 1);
        for (int e = 0; e < 4; e++) {
            x.submit(e);
        }
        Ops.beatOut(x);
        for (int r = 0; r < 4; r++) {
            Ops.runs(x, r, Ops.STATE, r == 0 ? Ops.FAILED : Ops.ENDED);
            Ops.runs(x, r, Ops.BINDINGS, 0);
            Due.is("value in " + r, 13, x.value(r, 3));
        }
        Ops.runs(x, 4, Ops.BINDINGS, 0);
        Due.is("what the giver would have read stays", 1, x.value(4, 3));
    }

    private static void asManyBindingsAsSteps() {
        Doc.says("rows of at most 24 STEPS");
        ErrandGuild x = Ops.guild();
        for (int i = 1; i <= 24; i++) {
            x.step(0, Ops.BIND, 3, 100 + i);
        }
        x.submit(0);
        for (int i = 1; i <= 24; i++) {
            x.beat(1);
            Ops.runs(x, 0, Ops.BINDINGS, i);
            Due.is("value", 100 + i, x.value(0, 3));
        }
        x.beat(1);
        Ops.runs(x, 0, Ops.STATE, Ops.ENDED);
        Ops.runs(x, 0, Ops.BINDINGS, 0);
        Due.is("value", 13, x.value(0, 3));
    }

    private static void asManyTriesAsSteps() {
        ErrandGuild x = Ops.guild();
        for (int i = 1; i <= 24; i++) {
            x.step(0, Ops.TRY, i == 24 ? 4 : 8, i == 24 ? 24 : 23);
        }
        x.submit(0);
        for (int i = 1; i <= 24; i++) {
            x.beat(1);
            Ops.runs(x, 0, Ops.TRIES, i);
        }
        x.interrupt(0);
        x.beat(1);
        // the last of them leads to 24; the one before it to 23, where a try opens again
        Ops.runs(x, 0, Ops.PLACE, 24);
        Ops.runs(x, 0, Ops.TRIES, 23);
        x.interrupt(0);
        x.beat(1);
        Ops.runs(x, 0, Ops.PLACE, 23);
        Ops.runs(x, 0, Ops.TRIES, 22);
        x.beat(1);
        Ops.runs(x, 0, Ops.TRIES, 23);
        x.beat(1);
        Ops.runs(x, 0, Ops.STATE, Ops.ENDED);
    }
}
