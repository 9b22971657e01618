import java.util.ArrayList;
import java.util.HashMap;
import java.util.LinkedHashSet;
import java.util.List;
import java.util.Map;
import java.util.Set;
import java.util.TreeMap;
import java.util.function.Predicate;

/** A second writing of the document, with the library's collections and without a thought of room or speed. */
final class PlainGuild implements Face {
    private record Step(int op, int a, int b) { }

    private record Handler(int effect, boolean throwing) { }

    /** A FAILURE on its way. */
    private static final class Fault extends RuntimeException {
        private static final long serialVersionUID = 1L;
        final int kind;
        final int cause;
        final int suppressed;

        Fault(int kind) {
            this(kind, -1, 0);
        }

        Fault(int kind, int cause, int suppressed) {
            super(null, null, false, false);
            this.kind = kind;
            this.cause = cause;
            this.suppressed = suppressed;
        }
    }

    private static final class Scope {
        final boolean isTry;
        final int what;
        int value;

        Scope(boolean isTry, int what, int value) {
            this.isTry = isTry;
            this.what = what;
            this.value = value;
        }
    }

    private static final class Run {
        int number;
        int errand;
        Run giver;
        Run root;
        int depth;
        int handedAt;
        String state = "READY";
        int thread = -1;
        int visits;
        int sum;
        int place;
        int over = -1;
        boolean interrupted;
        Fault fault;
        int failedAt;
        boolean uncaught;
        final List<Run> children = new ArrayList<>();
        /** null when it does not wait and has nothing to take. */
        Set<Run> awaited;
        final Set<Run> claimed = new LinkedHashSet<>();
        /** TRIES and BINDINGS together, as they opened. */
        final List<Scope> scopes = new ArrayList<>();
        final Map<Integer, Integer> given = new HashMap<>();
        final Map<Integer, Integer> wrote = new HashMap<>();
        final Map<Integer, Integer> own = new HashMap<>();
        final Map<Integer, Integer> shared = new HashMap<>();
        final List<Integer> remarks = new ArrayList<>();

        boolean isOver() {
            return state.equals("ENDED") || state.equals("FAILED");
        }
    }

    private final int[] manners = new int[8];
    private final int[] firsts = new int[8];
    private final List<List<Step>> errands = new ArrayList<>();
    private final Map<String, Handler> handlers = new HashMap<>();
    private int threadCount = 2;
    private List<Run> runs = new ArrayList<>();
    private Map<Integer, Run> on = new TreeMap<>();
    private int beats;
    private List<int[]> seen = new ArrayList<>();
    private List<int[]> handled = new ArrayList<>();
    private List<Integer> order = new ArrayList<>();

    PlainGuild() {
        for (int e = 0; e < 8; e++) {
            errands.add(new ArrayList<>());
        }
    }

    private static boolean in(int x, int low, int high) {
        return low <= x && x <= high;
    }

    @Override
    public boolean slot(int s, int manner, int first) {
        if (!in(s, 0, 7) || !in(manner, 0, 4) || !runs.isEmpty()) {
            return false;
        }
        manners[s] = manner;
        firsts[s] = first;
        return true;
    }

    @Override
    public boolean first(int s, int value) {
        if (!in(s, 0, 7)) {
            return false;
        }
        firsts[s] = value;
        return true;
    }

    @Override
    public int step(int e, int op, int a, int b) {
        if (!runs.isEmpty() || !in(e, 0, 7) || !in(op, 0, 12) || errands.get(e).size() == 24) {
            return -1;
        }
        boolean refused = op <= 5 && !in(a, 0, 7)
                || op == 4 && !in(b, 0, 1)
                || op == 5 && !in(b, 2, 4)
                || op == 8 && !in(a, 0, 3)
                || op == 9 && !in(a, 0, 8)
                || op == 9 && !in(b, errands.get(e).size() + 1, 24);
        if (refused) {
            return -1;
        }
        errands.get(e).add(new Step(op, a, b));
        return errands.get(e).size();
    }

    @Override
    public void anew(boolean wipes) {
        runs = new ArrayList<>();
        on = new TreeMap<>();
        beats = 0;
        seen = new ArrayList<>();
        handled = new ArrayList<>();
        order = new ArrayList<>();
        if (wipes) {
            errands.replaceAll(steps -> new ArrayList<>());
        }
    }

    @Override
    public boolean threads(int n) {
        if (!in(n, 1, 6) || !runs.isEmpty()) {
            return false;
        }
        threadCount = n;
        return true;
    }

    @Override
    public boolean handler(int level, int of, int effect, boolean throwing) {
        if (!in(level, 0, 2) || level < 2 && !in(of, 0, 7)) {
            return false;
        }
        handlers.put(level == 2 ? "office" : level + "/" + of, new Handler(effect, throwing));
        return true;
    }

    @Override
    public int submit(int e) {
        if (!in(e, 0, 7) || runs.size() == 200) {
            return -1;
        }
        Run r = new Run();
        r.root = r;
        for (int s = 0; s < 8; s++) {
            r.given.put(s, firsts[s]);
        }
        return enter(r, e).number;
    }

    private Run enter(Run r, int errand) {
        r.errand = errand;
        r.number = runs.size();
        runs.add(r);
        return r;
    }

    private int read(Run r, int s) {
        switch (manners[s]) {
            case 0: return r.state.equals("ON") ? r.own.getOrDefault(s, firsts[s]) : firsts[s];
            case 1: return r.wrote.getOrDefault(s, r.given.get(s));
            case 2: return r.root.shared.getOrDefault(s, firsts[s]);
            case 4: return r.wrote.getOrDefault(s, firsts[s]);
            default:
                Scope binding = innermost(r, c -> !c.isTry && c.what == s);
                return binding == null ? r.given.get(s) : binding.value;
        }
    }

    private static Scope innermost(Run r, Predicate<Scope> which) {
        for (int i = r.scopes.size() - 1; i >= 0; i--) {
            if (which.test(r.scopes.get(i))) {
                return r.scopes.get(i);
            }
        }
        return null;
    }

    @Override
    public int beat(int n) {
        if (!in(n, 1, 100)) {
            return -1;
        }
        for (int done = 0; done < n; done++) {
            if (runs.stream().allMatch(Run::isOver)) {
                return done;
            }
            oneBeat();
        }
        return n;
    }

    private void oneBeat() {
        beats++;
        for (Run r : runs) {
            if (r.state.equals("READY") && on.size() < threadCount) {
                int t = 0;
                while (on.containsKey(t)) {
                    t++;
                }
                on.put(t, r);
                r.thread = t;
                r.state = "ON";
                r.visits++;
                r.own.clear();
            }
        }
        for (Run r : new ArrayList<>(runs)) {
            if (r.state.equals("ON")) {
                turn(r);
            }
        }
        for (Run r : runs) {
            if (r.state.equals("WAITS") && r.awaited.stream().allMatch(Run::isOver)) {
                r.state = "READY";
            }
        }
    }

    private void turn(Run r) {
        order.add(256 * r.number + r.thread);
        try {
            act(r);
        } catch (Fault fault) {
            take(r, fault);
        }
        if (!r.state.equals("ON")) {
            on.remove(r.thread);
            r.thread = -1;
        }
        if (r.isOver()) {
            r.over = beats;
            r.scopes.removeIf(c -> !c.isTry);
            uncaught(r);
        }
    }

    private void act(Run r) {
        if (r.interrupted) {
            r.interrupted = false;
            r.awaited = null;
            throw new Fault(4);
        }
        if (r.awaited != null) {
            takeBack(r);
        } else if (r.place >= errands.get(r.errand).size()) {
            r.state = "ENDED";
        } else {
            doStep(r, errands.get(r.errand).get(r.place));
        }
        if (r.state.equals("ON")) {
            r.place++;
        }
    }

    private void takeBack(Run r) {
        List<Run> failed = new ArrayList<>();
        for (Run c : r.awaited) {
            if (c.state.equals("ENDED")) {
                r.sum += c.sum;
            } else {
                failed.add(c);
            }
        }
        r.awaited = null;
        if (!failed.isEmpty()) {
            throw new Fault(failed.get(0).fault.kind, failed.get(0).number, failed.size() - 1);
        }
    }

    private void doStep(Run r, Step step) {
        int a = step.a;
        int b = step.b;
        switch (step.op) {
            case 0 -> write(r, a, b);
            case 1 -> {
                int value = read(r, a);
                r.sum += value;
                seen.add(new int[] {r.number, a, value, r.place});
            }
            case 2 -> {
                if (manners[a] != 3) {
                    throw new Fault(5);
                }
                r.scopes.add(new Scope(false, a, b));
            }
            case 3 -> {
                Scope last = innermost(r, c -> !c.isTry);
                if (last == null || last.what != a) {
                    throw new Fault(5);
                }
                r.scopes.remove(last);
            }
            case 4 -> {
                Run c = hand(r, a);
                if (b == 1) {
                    await(r, List.of(c));
                }
            }
            case 5 -> {
                for (int i = 0; i < b; i++) {
                    hand(r, a);
                }
            }
            case 6 -> await(r, r.children.stream().filter(c -> !r.claimed.contains(c)).toList());
            case 7 -> r.root.remarks.add(b);
            case 8 -> throw new Fault(a);
            case 9 -> r.scopes.add(new Scope(true, a, b));
            case 10 -> {
                Scope last = innermost(r, c -> c.isTry);
                if (last == null) {
                    throw new Fault(5);
                }
                r.scopes.remove(last);
            }
            case 11 -> r.sum += b;
            default -> r.state = "ENDED";
        }
    }

    private void write(Run r, int s, int value) {
        switch (manners[s]) {
            case 0 -> r.own.put(s, value);
            case 2 -> r.root.shared.put(s, value);
            case 3 -> {
                Scope binding = innermost(r, c -> !c.isTry && c.what == s);
                if (binding == null) {
                    throw new Fault(5);
                }
                binding.value = value;
            }
            default -> r.wrote.put(s, value);
        }
    }

    private Run hand(Run r, int errand) {
        if (r.depth + 1 > 6) {
            throw new Fault(6);
        }
        if (runs.size() >= 200) {
            throw new Fault(7);
        }
        Run c = new Run();
        c.giver = r;
        c.root = r.root;
        c.depth = r.depth + 1;
        c.handedAt = r.place;
        for (int s = 0; s < 8; s++) {
            c.given.put(s, read(r, s));
        }
        r.children.add(c);
        return enter(c, errand);
    }

    private void await(Run r, List<Run> those) {
        r.claimed.addAll(those);
        r.awaited = new LinkedHashSet<>(those);
        if (those.stream().allMatch(Run::isOver)) {
            takeBack(r);
        } else {
            r.state = "WAITS";
        }
    }

    private void take(Run r, Fault fault) {
        Scope open = innermost(r, c -> c.isTry && (c.what == 8 || c.what == fault.kind));
        if (open != null) {
            int at = r.scopes.indexOf(open);
            r.scopes.subList(at, r.scopes.size()).clear();
            r.place = open.value;
            return;
        }
        r.state = "FAILED";
        r.fault = fault;
        r.failedAt = r.place;
    }

    private void uncaught(Run r) {
        List<Run> all = new ArrayList<>();
        all.add(r);
        all.addAll(r.children);
        for (Run c : all) {
            boolean forsaken = c.giver == null || c.giver.isOver() && !c.giver.claimed.contains(c);
            if (c.state.equals("FAILED") && forsaken && !c.uncaught) {
                c.uncaught = true;
                ask(c);
            }
        }
    }

    private void ask(Run r) {
        String[] names = {"0/" + r.errand, "1/" + r.fault.kind, "office"};
        for (int level = 0; level < 3; level++) {
            Handler h = handlers.get(names[level]);
            if (h != null) {
                handled.add(new int[] {r.number, level, h.effect, h.throwing ? 1 : 0});
                if (!h.throwing) {
                    return;
                }
            }
        }
    }

    @Override
    public boolean interrupt(int run) {
        Run r = in(run, 0, runs.size() - 1) ? runs.get(run) : null;
        if (r == null || r.isOver() || r.interrupted) {
            return false;
        }
        r.interrupted = true;
        if (r.state.equals("WAITS")) {
            r.state = "READY";
            r.awaited = null;
        }
        return true;
    }

    @Override
    public int run(int i, int what) {
        if (!in(i, 0, runs.size() - 1) || !in(what, 0, 12)) {
            return -1;
        }
        Run r = runs.get(i);
        int tries = (int) r.scopes.stream().filter(c -> c.isTry).count();
        int[] all = {List.of("READY", "ON", "WAITS", "ENDED", "FAILED").indexOf(r.state), r.errand,
            r.giver == null ? -1 : r.giver.number, r.root.number, r.depth, r.thread, r.sum, r.place,
            r.scopes.size() - tries, tries, r.over, r.children.size(), r.visits};
        return all[what];
    }

    private Run failed(int r) {
        return in(r, 0, runs.size() - 1) && runs.get(r).state.equals("FAILED") ? runs.get(r) : null;
    }

    @Override
    public int failure(int i, int what) {
        Run r = failed(i);
        if (r == null || !in(what, 0, 4)) {
            return -1;
        }
        return new int[] {r.fault.kind, r.failedAt, r.fault.cause, r.fault.suppressed, r.uncaught ? 1 : 0}[what];
    }

    @Override
    public int trace(int i, int line) {
        List<Integer> all = new ArrayList<>();
        Run r = failed(i);
        int at = r == null ? 0 : r.failedAt;
        while (r != null) {
            all.add(32 * r.errand + at);
            at = r.handedAt;
            r = r.giver;
        }
        return in(line, 0, all.size() - 1) ? all.get(line) : -1;
    }

    @Override
    public int child(int r, int i) {
        if (!in(r, 0, runs.size() - 1) || !in(i, 0, runs.get(r).children.size() - 1)) {
            return -1;
        }
        return runs.get(r).children.get(i).number;
    }

    @Override
    public int value(int r, int s) {
        return in(r, 0, runs.size() - 1) && in(s, 0, 7) ? read(runs.get(r), s) : 0;
    }

    @Override
    public int seen(int i, int what) {
        return in(i, 0, Math.min(seen.size(), 1000) - 1) && in(what, 0, 3) ? seen.get(i)[what] : -1;
    }

    @Override
    public int remark(int root, int i) {
        if (!in(root, 0, runs.size() - 1) || !in(i, 0, runs.get(root).remarks.size() - 1)) {
            return 0;
        }
        return runs.get(root).remarks.get(i);
    }

    @Override
    public int handled(int i, int what) {
        return in(i, 0, handled.size() - 1) && in(what, 0, 3) ? handled.get(i)[what] : -1;
    }

    @Override
    public int order(int i) {
        return in(i, 0, Math.min(order.size(), 2000) - 1) ? order.get(i) : -1;
    }

    @Override
    public int count(int what) {
        if (in(what, 3, 7)) {
            String state = List.of("READY", "ON", "WAITS", "ENDED", "FAILED").get(what - 3);
            return (int) runs.stream().filter(r -> r.state.equals(state)).count();
        }
        return switch (what) {
            case 0 -> runs.size();
            case 1 -> beats;
            case 2 -> threadCount;
            case 8 -> seen.size();
            case 9 -> handled.size();
            case 10 -> order.size();
            default -> what >= 16 && on.containsKey(what - 16) ? on.get(what - 16).number : -1;
        };
    }
}
