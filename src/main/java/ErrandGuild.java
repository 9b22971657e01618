/**
 * A guild's errands: programs of steps handed on over a few threads, as ../shared/DOC.md promises.
 * Words in capitals in comments are the document's.
 */
public final class ErrandGuild {
    public static final int NONE = -1;

    private static final int SLOT_COUNT = 8;
    private static final int ERRAND_COUNT = 8;
    private static final int KIND_COUNT = 8;
    private static final int THROWN_KINDS = 4;
    private static final int STEP_LIMIT = 24;
    private static final int RUN_LIMIT = 200;
    private static final int DEPTH_LIMIT = 6;
    private static final int THREADS_AT_FIRST = 2;
    private static final int THREAD_LIMIT = 6;
    private static final int BEAT_LIMIT = 100;
    private static final int SEEN_LIMIT = 1000;
    private static final int ORDER_LIMIT = 2000;
    /** A RUN is UNCAUGHT once at the most, and then three HANDLERS are asked at the most. */
    private static final int ASKED_LIMIT = 3 * RUN_LIMIT;
    /** The document tells no bound: 512 calls of 100 BEATS on 6 THREADS stay far below this. */
    private static final int REMARK_LIMIT = 1 << 20;
    private static final int ROOM_AT_FIRST = 16;
    private static final int TRACE_BASE = 32;
    private static final int ORDER_BASE = 256;
    private static final int COUNT_OF_THREADS = 16;

    private static final int OWN = 0;
    private static final int INHERITED = 1;
    private static final int SHARED = 2;
    private static final int BOUND = 3;
    private static final int WIPED = 4;

    private static final int KIND_INTERRUPTED = 4;
    private static final int KIND_WRONG = 5;
    private static final int KIND_DEEP = 6;
    private static final int KIND_FULL = 7;
    private static final int ALL_KINDS = 8;

    private static final int OP_WRITE = 0;
    private static final int OP_ADD = 1;
    private static final int OP_BIND = 2;
    private static final int OP_FREE = 3;
    private static final int OP_HAND = 4;
    private static final int OP_SPLIT = 5;
    private static final int OP_GATHER = 6;
    private static final int OP_REMARK = 7;
    private static final int OP_THROW = 8;
    private static final int OP_TRY = 9;
    private static final int OP_DONE = 10;
    private static final int OP_PLUS = 11;
    private static final int OP_END = 12;

    private static final int READY = 0;
    private static final int ON_THREAD = 1;
    private static final int WAITS = 2;
    private static final int ENDED = 3;
    private static final int FAILED = 4;

    /** What a turn comes to beside a FAILURE's KIND, which is never below 0. */
    private static final int GOES_ON = -1;
    private static final int STAYS = -2;

    private static final int UNCLAIMED = 0;
    private static final int AWAITED = 1;
    private static final int SETTLED = 2;

    private static final int LEVEL_ERRAND = 0;
    private static final int LEVEL_KIND = 1;
    private static final int LEVEL_OFFICE = 2;

    private final int[] manners = new int[SLOT_COUNT];
    private final int[] firsts = new int[SLOT_COUNT];
    private final Errand[] errands = new Errand[ERRAND_COUNT];
    private final Handlers handlers = new Handlers();
    /** Made when first needed and used again behind anew, so that no run of calls makes more than these. */
    private final Run[] runs = new Run[RUN_LIMIT];
    private int runCount;
    private final Run[] onThreads = new Run[THREAD_LIMIT];
    private int threadCount = THREADS_AT_FIRST;
    private int beats;
    private final Ledger readings = new Ledger(SEEN_LIMIT);
    private int readingCount;
    private final Ledger asked = new Ledger(ASKED_LIMIT);
    private int askedCount;
    private final Cells turns = new Cells(ORDER_LIMIT);
    private int turnCount;

    public ErrandGuild() {
        for (int e = 0; e < ERRAND_COUNT; e++) {
            errands[e] = new Errand();
        }
    }

    // ---- what is told before there are RUNS

    public boolean slot(int s, int manner, int first) {
        if (!isSlot(s) || manner < OWN || manner > WIPED || runCount > 0) {
            return false;
        }
        manners[s] = manner;
        firsts[s] = first;
        return true;
    }

    public boolean first(int s, int value) {
        if (!isSlot(s)) {
            return false;
        }
        firsts[s] = value;
        return true;
    }

    public int step(int e, int op, int a, int b) {
        Errand errand = errandAt(e);
        if (errand == null || runCount > 0) {
            return NONE;
        }
        if (errand.count >= STEP_LIMIT || !fits(op, a, b, errand.count)) {
            return NONE;
        }
        errand.add(op, a, b);
        return errand.count;
    }

    public void anew(boolean wipes) {
        runCount = 0;
        beats = 0;
        for (int t = 0; t < THREAD_LIMIT; t++) {
            onThreads[t] = null;
        }
        readings.clear();
        readingCount = 0;
        asked.clear();
        askedCount = 0;
        turns.clear();
        turnCount = 0;
        if (wipes) {
            wipeErrands();
        }
    }

    public boolean threads(int n) {
        if (n < 1 || n > THREAD_LIMIT || runCount > 0) {
            return false;
        }
        threadCount = n;
        return true;
    }

    public boolean handler(int level, int of, int effect, boolean throwing) {
        int i = Handlers.indexOf(level, of);
        if (i == NONE) {
            return false;
        }
        handlers.put(i, effect, throwing);
        return true;
    }

    // ---- what moves RUNS

    public int submit(int e) {
        if (!isErrand(e)) {
            return NONE;
        }
        Run root = openRun(e, null);
        return root == null ? NONE : root.number;
    }

    public int beat(int n) {
        if (n < 1 || n > BEAT_LIMIT) {
            return NONE;
        }
        int done = 0;
        while (done < n && isWorkLeft()) {
            beats++;
            fillThreads();
            takeTurns();
            wakeWaiting();
            done++;
        }
        return done;
    }

    public boolean interrupt(int run) {
        Run told = runAt(run);
        if (told == null || told.isOver() || told.interrupted) {
            return false;
        }
        told.interrupted = true;
        if (told.state == WAITS) {
            told.state = READY;
        }
        return true;
    }

    // ---- what is asked

    public int run(int r, int what) {
        Run asks = runAt(r);
        if (asks == null) {
            return NONE;
        }
        switch (what) {
            case 0: return asks.state;
            case 1: return asks.errand;
            case 2: return asks.kin.giver == null ? NONE : asks.kin.giver.number;
            case 3: return asks.root().number;
            case 4: return asks.kin.depth;
            case 5: return asks.thread;
            case 6: return asks.sum;
            case 7: return asks.place;
            case 8: return asks.scopes.bindings;
            case 9: return asks.scopes.tries;
            case 10: return asks.overBeat;
            case 11: return asks.kin.children;
            case 12: return asks.visits;
            default: return NONE;
        }
    }

    public int failure(int r, int what) {
        Run failed = failedAt(r);
        if (failed == null) {
            return NONE;
        }
        switch (what) {
            case 0: return failed.fault.kind;
            case 1: return failed.fault.step;
            case 2: return failed.fault.cause;
            case 3: return failed.fault.suppressed;
            case 4: return failed.fault.uncaught ? 1 : 0;
            default: return NONE;
        }
    }

    public int trace(int r, int i) {
        Run line = failedAt(r);
        if (line == null || i < 0 || i > line.kin.depth) {
            return NONE;
        }
        int at = line.fault.step;
        for (int up = 0; up < i; up++) {
            at = line.kin.handedAt;
            line = line.kin.giver;
            if (line == null) {
                return NONE;
            }
        }
        return TRACE_BASE * line.errand + at;
    }

    public int child(int r, int i) {
        Run giver = runAt(r);
        if (giver == null || i < 0 || i >= giver.kin.children) {
            return NONE;
        }
        int before = 0;
        for (Run c = giver.kin.firstChild; c != null; c = c.kin.nextSibling) {
            if (before == i) {
                return c.number;
            }
            before++;
        }
        return NONE;
    }

    public int value(int r, int s) {
        Run reader = runAt(r);
        if (reader == null || !isSlot(s)) {
            return 0;
        }
        return readIn(reader, s);
    }

    public int seen(int i, int what) {
        return readings.at(i, what);
    }

    public int remark(int root, int i) {
        Run of = runAt(root);
        if (of == null || of.kin.giver != null) {
            return 0;
        }
        return of.remarks.has(i) ? of.remarks.at(i) : 0;
    }

    public int handled(int i, int what) {
        return asked.at(i, what);
    }

    public int order(int i) {
        return turns.has(i) ? turns.at(i) : NONE;
    }

    public int count(int what) {
        switch (what) {
            case 0: return runCount;
            case 1: return beats;
            case 2: return threadCount;
            case 3: return runsThatAre(READY);
            case 4: return runsThatAre(ON_THREAD);
            case 5: return runsThatAre(WAITS);
            case 6: return runsThatAre(ENDED);
            case 7: return runsThatAre(FAILED);
            case 8: return readingCount;
            case 9: return askedCount;
            case 10: return turnCount;
            default: return runOnThread(what);
        }
    }

    // ---- looking things up

    private static boolean isSlot(int s) {
        return s >= 0 && s < SLOT_COUNT;
    }

    private static boolean isErrand(int e) {
        return e >= 0 && e < ERRAND_COUNT;
    }

    private Errand errandAt(int e) {
        return isErrand(e) ? errands[e] : null;
    }

    private Run runAt(int r) {
        return r >= 0 && r < runCount && r < RUN_LIMIT ? runs[r] : null;
    }

    private Run failedAt(int r) {
        Run found = runAt(r);
        return found != null && found.state == FAILED ? found : null;
    }

    private int runsThatAre(int state) {
        int found = 0;
        for (int r = 0; r < runCount; r++) {
            Run one = runAt(r);
            if (one != null && one.state == state) {
                found++;
            }
        }
        return found;
    }

    private int runOnThread(int what) {
        if (what < COUNT_OF_THREADS || what >= COUNT_OF_THREADS + threadCount) {
            return NONE;
        }
        int t = what - COUNT_OF_THREADS;
        if (t >= THREAD_LIMIT || onThreads[t] == null) {
            return NONE;
        }
        return onThreads[t].number;
    }

    private boolean isWorkLeft() {
        for (int r = 0; r < runCount; r++) {
            Run one = runAt(r);
            if (one != null && !one.isOver()) {
                return true;
            }
        }
        return false;
    }

    private void wipeErrands() {
        for (int e = 0; e < ERRAND_COUNT; e++) {
            Errand errand = errandAt(e);
            if (errand != null) {
                errand.count = 0;
            }
        }
    }

    /** Whether a STEP can stand at the place at with these. */
    private static boolean fits(int op, int a, int b, int at) {
        switch (op) {
            case OP_WRITE:
            case OP_ADD:
            case OP_BIND:
            case OP_FREE:
                return isSlot(a);
            case OP_HAND:
                return isErrand(a) && (b == 0 || b == 1);
            case OP_SPLIT:
                return isErrand(a) && b >= 2 && b <= 4;
            case OP_THROW:
                return a >= 0 && a < THROWN_KINDS;
            case OP_TRY:
                return a >= 0 && a <= ALL_KINDS && b > at && b <= STEP_LIMIT;
            case OP_GATHER:
            case OP_REMARK:
            case OP_DONE:
            case OP_PLUS:
            case OP_END:
                return true;
            default:
                return false;
        }
    }

    // ---- SLOTS

    private int readIn(Run run, int s) {
        if (!isSlot(s)) {
            return 0;
        }
        switch (manners[s]) {
            case INHERITED:
                return run.memory.writtenOr(s, run.memory.givenAt(s));
            case SHARED:
                return run.root().memory.writtenOr(s, firsts[s]);
            case BOUND:
                return run.scopes.boundOr(s, run.memory.givenAt(s));
            default:
                // OWN needs no more than WIPED: leaving the THREAD forgets what was written
                return run.memory.writtenOr(s, firsts[s]);
        }
    }

    private int writeIn(Run run, int s, int value) {
        if (!isSlot(s)) {
            return KIND_WRONG;
        }
        switch (manners[s]) {
            case SHARED:
                run.root().memory.write(s, value);
                return GOES_ON;
            case BOUND:
                return run.scopes.rebind(s, value) ? GOES_ON : KIND_WRONG;
            default:
                run.memory.write(s, value);
                return GOES_ON;
        }
    }

    private int addReading(Run run, int s) {
        int read = readIn(run, s);
        run.sum += read;
        readings.add(run.number, s, read, run.place);
        readingCount++;
        return GOES_ON;
    }

    private int bind(Run run, int s, int value) {
        if (!isSlot(s) || manners[s] != BOUND) {
            return KIND_WRONG;
        }
        run.scopes.bind(s, value);
        return GOES_ON;
    }

    // ---- a BEAT

    private void fillThreads() {
        for (int r = 0; r < runCount; r++) {
            Run one = runAt(r);
            if (one != null && one.state == READY) {
                comeToThread(one);
            }
        }
    }

    private void takeTurns() {
        // those that are handed meanwhile have no turn in this BEAT
        int there = runCount;
        for (int r = 0; r < there; r++) {
            Run one = runAt(r);
            if (one != null && one.state == ON_THREAD) {
                noteTurn(one);
                boolean isDiverted = one.interrupted || one.returning;
                closeTurn(one, isDiverted ? standIn(one) : doStep(one));
            }
        }
    }

    private void wakeWaiting() {
        for (int r = 0; r < runCount; r++) {
            Run one = runAt(r);
            if (one != null && one.state == WAITS && areAwaitedOver(one)) {
                one.state = READY;
                one.returning = true;
            }
        }
    }

    private void comeToThread(Run run) {
        for (int t = 0; t < threadCount && t < THREAD_LIMIT; t++) {
            if (onThreads[t] == null) {
                onThreads[t] = run;
                run.thread = t;
                run.state = ON_THREAD;
                run.visits++;
                return;
            }
        }
    }

    private void leaveThread(Run run) {
        if (run.thread >= 0 && run.thread < THREAD_LIMIT) {
            onThreads[run.thread] = null;
        }
        run.thread = NONE;
        for (int s = 0; s < SLOT_COUNT; s++) {
            if (manners[s] == OWN) {
                run.memory.forget(s);
            }
        }
    }

    private void noteTurn(Run run) {
        turns.add(ORDER_BASE * run.number + run.thread);
        turnCount++;
        run.fault.clear();
    }

    private void closeTurn(Run run, int outcome) {
        if (outcome == GOES_ON) {
            run.place++;
        } else if (outcome != STAYS) {
            failWith(run, outcome);
        }
        if (run.state != ON_THREAD) {
            leaveThread(run);
        }
        if (run.isOver()) {
            tellUncaught(run);
        }
    }

    /** What is done in place of a STEP; an INTERRUPT goes before ANSWERS that are there. */
    private static int standIn(Run run) {
        return run.interrupted ? noticeInterrupt(run) : takeAnswers(run);
    }

    /** GOES_ON, STAYS or the KIND of a FAILURE. */
    private int doStep(Run run) {
        Errand errand = errandAt(run.errand);
        int at = run.place;
        if (errand == null || at < 0 || at >= errand.count || at >= STEP_LIMIT) {
            return end(run);
        }
        int a = errand.as[at];
        int b = errand.bs[at];
        switch (errand.ops[at]) {
            case OP_WRITE:
                return writeIn(run, a, b);
            case OP_ADD:
                return addReading(run, a);
            case OP_BIND:
                return bind(run, a, b);
            case OP_FREE:
                return run.scopes.free(a) ? GOES_ON : KIND_WRONG;
            case OP_HAND:
                return hand(run, a, 1, b == 1);
            case OP_SPLIT:
                return hand(run, a, b, false);
            case OP_GATHER:
                return gather(run);
            case OP_REMARK:
                run.root().remarks.add(b);
                return GOES_ON;
            case OP_THROW:
                return a;
            case OP_TRY:
                run.scopes.openTry(a, b);
                return GOES_ON;
            case OP_DONE:
                return run.scopes.closeTry() ? GOES_ON : KIND_WRONG;
            case OP_PLUS:
                run.sum += b;
                return GOES_ON;
            default:
                return end(run);
        }
    }

    private int end(Run run) {
        run.state = ENDED;
        run.overBeat = beats;
        run.scopes.endBindings();
        return STAYS;
    }

    // ---- handing, waiting and gathering

    /** null if RUN_LIMIT are there. */
    private Run openRun(int errand, Run giver) {
        if (runCount < 0 || runCount >= RUN_LIMIT) {
            return null;
        }
        Run opened = runs[runCount];
        if (opened == null) {
            opened = new Run(runCount);
            runs[runCount] = opened;
        }
        opened.begin(errand, giver);
        for (int s = 0; s < SLOT_COUNT; s++) {
            opened.memory.give(s, giver == null ? firsts[s] : readIn(giver, s));
        }
        runCount++;
        return opened;
    }

    /** Hands so many RUNS one by one; what was handed before a FAILURE stays handed. */
    private int hand(Run run, int errand, int parts, boolean waits) {
        for (int i = 0; i < parts; i++) {
            if (run.kin.depth >= DEPTH_LIMIT) {
                return KIND_DEEP;
            }
            Run handed = openRun(errand, run);
            if (handed == null) {
                return KIND_FULL;
            }
            run.kin.adopt(handed);
            if (waits) {
                handed.kin.claim = AWAITED;
                run.state = WAITS;
            }
        }
        return waits ? STAYS : GOES_ON;
    }

    private int gather(Run run) {
        for (Run c = run.kin.firstChild; c != null; c = c.kin.nextSibling) {
            if (c.kin.claim == UNCLAIMED) {
                c.kin.claim = AWAITED;
            }
        }
        if (areAwaitedOver(run)) {
            return takeAnswers(run);
        }
        run.state = WAITS;
        return STAYS;
    }

    private static boolean areAwaitedOver(Run run) {
        for (Run c = run.kin.firstChild; c != null; c = c.kin.nextSibling) {
            if (c.kin.claim == AWAITED && !c.isOver()) {
                return false;
            }
        }
        return true;
    }

    private static void settleAwaited(Run run) {
        for (Run c = run.kin.firstChild; c != null; c = c.kin.nextSibling) {
            if (c.kin.claim == AWAITED) {
                c.kin.claim = SETTLED;
            }
        }
    }

    private static int takeAnswers(Run run) {
        Run cause = null;
        int failed = 0;
        for (Run c = run.kin.firstChild; c != null; c = c.kin.nextSibling) {
            if (c.kin.claim == AWAITED && c.state == ENDED) {
                run.sum += c.sum;
            } else if (c.kin.claim == AWAITED && c.state == FAILED) {
                failed++;
                cause = cause == null ? c : cause;
            }
        }
        settleAwaited(run);
        run.returning = false;
        if (cause == null) {
            return GOES_ON;
        }
        run.fault.cause = cause.number;
        run.fault.suppressed = failed - 1;
        return cause.fault.kind;
    }

    // ---- FAILURES

    private static int noticeInterrupt(Run run) {
        run.interrupted = false;
        // those it waited for count as waited for, and it never takes their ANSWERS, even if they were there
        run.returning = false;
        settleAwaited(run);
        return KIND_INTERRUPTED;
    }

    private void failWith(Run run, int kind) {
        int place = run.scopes.catchOf(kind);
        if (place != NONE) {
            run.place = place;
            return;
        }
        run.fault.kind = kind;
        run.fault.step = run.place;
        run.state = FAILED;
        run.overBeat = beats;
        run.scopes.endBindings();
    }

    /** The RUN itself first, then its children that nobody can wait for any more. */
    private void tellUncaught(Run over) {
        Run giver = over.kin.giver;
        boolean isForsaken = giver == null || (giver.isOver() && over.kin.claim == UNCLAIMED);
        if (over.state == FAILED && isForsaken) {
            askHandlers(over);
        }
        for (Run c = over.kin.firstChild; c != null; c = c.kin.nextSibling) {
            if (c.state == FAILED && c.kin.claim == UNCLAIMED) {
                askHandlers(c);
            }
        }
    }

    private void askHandlers(Run failed) {
        failed.fault.uncaught = true;
        boolean isOpen = true;
        for (int level = LEVEL_ERRAND; level <= LEVEL_OFFICE && isOpen; level++) {
            int of = level == LEVEL_ERRAND ? failed.errand : failed.fault.kind;
            int i = Handlers.indexOf(level, of);
            if (handlers.isThere(i)) {
                boolean threw = handlers.isThrowing(i);
                asked.add(failed.number, level, handlers.effectAt(i), threw ? 1 : 0);
                askedCount++;
                isOpen = threw;
            }
        }
    }

    /** The STEPS of one ERRAND. */
    private static final class Errand {
        final int[] ops = new int[STEP_LIMIT];
        final int[] as = new int[STEP_LIMIT];
        final int[] bs = new int[STEP_LIMIT];
        int count;

        void add(int op, int a, int b) {
            if (count < 0 || count >= STEP_LIMIT) {
                return;
            }
            ops[count] = op;
            as[count] = a;
            bs[count] = b;
            count++;
        }
    }

    /** All HANDLERS in one row: those of ERRANDS, then those of KINDS, then the office's. */
    private static final class Handlers {
        private static final int PLACES = ERRAND_COUNT + KIND_COUNT + 1;

        private final boolean[] there = new boolean[PLACES];
        private final int[] effects = new int[PLACES];
        private final boolean[] throwing = new boolean[PLACES];

        /** NONE: no such level, ERRAND or KIND. */
        static int indexOf(int level, int of) {
            if (level == LEVEL_OFFICE) {
                return ERRAND_COUNT + KIND_COUNT;
            }
            if (level == LEVEL_ERRAND && isErrand(of)) {
                return of;
            }
            if (level == LEVEL_KIND && of >= 0 && of < KIND_COUNT) {
                return ERRAND_COUNT + of;
            }
            return NONE;
        }

        void put(int i, int effect, boolean isThrowing) {
            if (i >= 0 && i < PLACES) {
                there[i] = true;
                effects[i] = effect;
                throwing[i] = isThrowing;
            }
        }

        boolean isThere(int i) {
            return i >= 0 && i < PLACES && there[i];
        }

        boolean isThrowing(int i) {
            return i >= 0 && i < PLACES && throwing[i];
        }

        int effectAt(int i) {
            return i >= 0 && i < PLACES ? effects[i] : 0;
        }
    }

    /** One RUN; its object serves again behind anew. */
    private static final class Run {
        final int number;
        int errand;
        int state;
        int thread;
        int visits;
        int sum;
        int place;
        int overBeat;
        boolean interrupted;
        /** READY behind a WAIT: the next turn takes the ANSWERS. */
        boolean returning;
        final Kin kin = new Kin();
        final Memory memory = new Memory();
        final Scopes scopes = new Scopes();
        final Fault fault = new Fault();
        final Cells remarks = new Cells(REMARK_LIMIT);

        Run(int number) {
            this.number = number;
        }

        void begin(int newErrand, Run giver) {
            errand = newErrand;
            state = READY;
            thread = NONE;
            visits = 0;
            sum = 0;
            place = 0;
            overBeat = NONE;
            interrupted = false;
            returning = false;
            kin.begin(giver);
            memory.clear();
            scopes.clear();
            fault.clear();
            remarks.clear();
        }

        boolean isOver() {
            return state == ENDED || state == FAILED;
        }

        Run root() {
            return kin.root == null ? this : kin.root;
        }
    }

    /** Whose a RUN is, and which are its. */
    private static final class Kin {
        Run giver;
        /** null for one that is a ROOT itself. */
        Run root;
        int depth;
        /** The GIVER's STEP that handed it. */
        int handedAt;
        /** What its GIVER has done about it: UNCLAIMED, AWAITED, or SETTLED when that is behind. */
        int claim;
        Run firstChild;
        Run lastChild;
        Run nextSibling;
        int children;

        void begin(Run newGiver) {
            giver = newGiver;
            root = newGiver == null ? null : newGiver.root();
            depth = newGiver == null ? 0 : newGiver.kin.depth + 1;
            handedAt = newGiver == null ? 0 : newGiver.place;
            claim = UNCLAIMED;
            firstChild = null;
            lastChild = null;
            nextSibling = null;
            children = 0;
        }

        void adopt(Run child) {
            if (lastChild == null) {
                firstChild = child;
            } else {
                lastChild.kin.nextSibling = child;
            }
            lastChild = child;
            children++;
        }
    }

    /** What a RUN wrote into SLOTS, and what its GIVER would have read in them as it handed. */
    private static final class Memory {
        private final boolean[] wrote = new boolean[SLOT_COUNT];
        private final int[] written = new int[SLOT_COUNT];
        private final int[] given = new int[SLOT_COUNT];

        void clear() {
            for (int s = 0; s < SLOT_COUNT; s++) {
                wrote[s] = false;
                given[s] = 0;
            }
        }

        void write(int s, int value) {
            if (isSlot(s)) {
                wrote[s] = true;
                written[s] = value;
            }
        }

        void forget(int s) {
            if (isSlot(s)) {
                wrote[s] = false;
            }
        }

        int writtenOr(int s, int otherwise) {
            return isSlot(s) && wrote[s] ? written[s] : otherwise;
        }

        void give(int s, int value) {
            if (isSlot(s)) {
                given[s] = value;
            }
        }

        int givenAt(int s) {
            return isSlot(s) ? given[s] : 0;
        }
    }

    /**
     * The open BINDINGS and TRIES of a RUN, innermost last. All that are open stem from STEPS before the RUN's
     * place, each from another, since a FAILURE leads to a place behind its TRY: STEP_LIMIT of each are enough.
     */
    private static final class Scopes {
        private final int[] bindingSlots = new int[STEP_LIMIT];
        private final int[] bindingValues = new int[STEP_LIMIT];
        private final int[] bindingMarks = new int[STEP_LIMIT];
        int bindings;
        private final int[] tryKinds = new int[STEP_LIMIT];
        private final int[] tryPlaces = new int[STEP_LIMIT];
        private final int[] tryMarks = new int[STEP_LIMIT];
        int tries;
        /**
         * How many TRIES ever opened. How many BINDINGS were open as a TRY opened can't tell which came since: one
         * of those may have been freed and another opened in its place.
         */
        private int marks;

        void clear() {
            bindings = 0;
            tries = 0;
            marks = 0;
        }

        void bind(int slot, int value) {
            if (bindings < 0 || bindings >= STEP_LIMIT) {
                return;
            }
            bindingSlots[bindings] = slot;
            bindingValues[bindings] = value;
            bindingMarks[bindings] = marks;
            bindings++;
        }

        private int innermostOf(int slot) {
            for (int i = STEP_LIMIT - 1; i >= 0; i--) {
                if (i < bindings && bindingSlots[i] == slot) {
                    return i;
                }
            }
            return NONE;
        }

        int boundOr(int slot, int otherwise) {
            int i = innermostOf(slot);
            return i >= 0 && i < STEP_LIMIT ? bindingValues[i] : otherwise;
        }

        boolean rebind(int slot, int value) {
            int i = innermostOf(slot);
            if (i < 0 || i >= STEP_LIMIT) {
                return false;
            }
            bindingValues[i] = value;
            return true;
        }

        boolean free(int slot) {
            int top = bindings - 1;
            if (top < 0 || top >= STEP_LIMIT || bindingSlots[top] != slot) {
                return false;
            }
            bindings = top;
            return true;
        }

        void endBindings() {
            bindings = 0;
        }

        void openTry(int kind, int place) {
            if (tries < 0 || tries >= STEP_LIMIT) {
                return;
            }
            tryKinds[tries] = kind;
            tryPlaces[tries] = place;
            tryMarks[tries] = marks;
            tries++;
            marks++;
        }

        boolean closeTry() {
            if (tries <= 0) {
                return false;
            }
            tries--;
            return true;
        }

        /** The place at which the RUN goes on behind a FAILURE of this KIND; NONE: no TRY is for it. */
        int catchOf(int kind) {
            for (int i = STEP_LIMIT - 1; i >= 0; i--) {
                if (i < tries && (tryKinds[i] == kind || tryKinds[i] == ALL_KINDS)) {
                    tries = i;
                    endBindingsSince(tryMarks[i]);
                    return tryPlaces[i];
                }
            }
            return NONE;
        }

        private void endBindingsSince(int mark) {
            for (int i = STEP_LIMIT - 1; i >= 0; i--) {
                if (i < bindings && bindingMarks[i] > mark) {
                    bindings = i;
                }
            }
        }
    }

    /** The FAILURE of a RUN; it is told only when the RUN is FAILED. */
    private static final class Fault {
        int kind;
        int step;
        int cause;
        int suppressed;
        boolean uncaught;

        void clear() {
            kind = NONE;
            step = NONE;
            cause = NONE;
            suppressed = 0;
            uncaught = false;
        }
    }

    /** A row of numbers that grows up to a limit; what would come behind it is not kept. */
    private static final class Cells {
        private final int limit;
        private int[] cells = new int[ROOM_AT_FIRST];
        private int used;

        Cells(int limit) {
            this.limit = limit;
        }

        void clear() {
            used = 0;
        }

        void add(int cell) {
            if (used >= limit) {
                return;
            }
            if (used >= cells.length) {
                int[] wider = new int[2 * cells.length];
                System.arraycopy(cells, 0, wider, 0, cells.length);
                cells = wider;
            }
            if (used >= 0 && used < cells.length) {
                cells[used] = cell;
                used++;
            }
        }

        boolean has(int i) {
            return i >= 0 && i < used && i < cells.length;
        }

        int at(int i) {
            return has(i) ? cells[i] : 0;
        }
    }

    /** Rows of four numbers, the first so many that come. */
    private static final class Ledger {
        private static final int WIDTH = 4;

        private final int limit;
        private final Cells cells;

        Ledger(int limit) {
            this.limit = limit;
            cells = new Cells(WIDTH * limit);
        }

        void clear() {
            cells.clear();
        }

        void add(int a, int b, int c, int d) {
            cells.add(a);
            cells.add(b);
            cells.add(c);
            cells.add(d);
        }

        int at(int i, int what) {
            // the limit is looked at first: WIDTH * i must not wrap
            if (i < 0 || i >= limit || what < 0 || what >= WIDTH) {
                return NONE;
            }
            int cell = WIDTH * i + what;
            return cells.has(cell) ? cells.at(cell) : NONE;
        }
    }
}
