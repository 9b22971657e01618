import java.util.Random;

/** Random runs of calls, answered by ErrandGuild as by PlainGuild; the seeds are fixed, so every run is the same. */
public final class ModelTest {
    private static final int GUILDS = 3000;
    private static final int[] ODD = {Integer.MIN_VALUE, -2, -1, 0, 1, 2, 7, 8, 9, 24, 25, 199, 200, 1 << 30,
        Integer.MAX_VALUE};

    private final Random random;
    private final RealGuild real = new RealGuild();
    private final PlainGuild plain = new PlainGuild();
    private final String name;

    private ModelTest(int seed) {
        random = new Random(seed);
        name = "guild " + seed + ": ";
    }

    public static void main(String[] args) {
        for (int seed = 0; seed < GUILDS; seed++) {
            new ModelTest(seed).live();
        }
        Due.close("ModelTest");
    }

    private void live() {
        prepare();
        int moves = 5 + random.nextInt(40);
        for (int i = 0; i < moves; i++) {
            move();
            oddCalls();
            if (random.nextInt(4) == 0) {
                compareAll();
            }
        }
        compareAll();
    }

    private int upTo(int n) {
        return random.nextInt(n);
    }

    private void prepare() {
        for (int s = 0; s < 8; s++) {
            int manner = upTo(5);
            int first = upTo(100);
            Due.is(name + "slot", plain.slot(s, manner, first), real.slot(s, manner, first));
        }
        int n = 1 + upTo(6);
        Due.is(name + "threads", plain.threads(n), real.threads(n));
        writeErrands();
        int handlers = upTo(8);
        for (int i = 0; i < handlers; i++) {
            tellHandler();
        }
    }

    private void tellHandler() {
        int level = upTo(3);
        int of = upTo(8);
        int effect = upTo(100) - 1;
        boolean throwing = random.nextBoolean();
        Due.is(name + "handler", plain.handler(level, of, effect, throwing),
                real.handler(level, of, effect, throwing));
    }

    private void writeErrands() {
        int style = upTo(4);
        for (int e = 0; e < 8; e++) {
            int steps = upTo(style == 0 ? 25 : 12);
            for (int i = 0; i < steps; i++) {
                writeStep(e, i, style);
            }
        }
    }

    private void writeStep(int e, int at, int style) {
        int op = style == 1 ? new int[] {1, 2, 3, 8, 9, 9, 10, 0}[upTo(8)]
                : style == 2 ? new int[] {4, 5, 6, 6, 8, 9, 4, 11}[upTo(8)] : upTo(13);
        int a = upTo(8);
        int b = upTo(50) - 5;
        if (op == Ops.HAND) {
            // mostly later errands, so that not all goes deep
            a = upTo(3) == 0 ? a : Math.min(7, e + 1 + upTo(3));
            b = upTo(2);
        } else if (op == Ops.SPLIT) {
            a = Math.min(7, e + 1 + upTo(3));
            b = 2 + upTo(3);
        } else if (op == Ops.THROW) {
            a = upTo(4);
        } else if (op == Ops.TRY) {
            a = random.nextBoolean() ? 8 : upTo(9);
            b = Math.min(24, at + 1 + upTo(5));
        }
        Due.is(name + "step", plain.step(e, op, a, b), real.step(e, op, a, b));
    }

    private void move() {
        int kind = upTo(20);
        if (kind < 6) {
            int e = upTo(8);
            Due.is(name + "submit", plain.submit(e), real.submit(e));
        } else if (kind < 13) {
            int n = upTo(6) == 0 ? 1 + upTo(100) : 1 + upTo(4);
            Due.is(name + "beat", plain.beat(n), real.beat(n));
        } else if (kind < 17) {
            int r = upTo(Math.max(1, real.count(0)));
            Due.is(name + "interrupt", plain.interrupt(r), real.interrupt(r));
        } else if (kind < 18) {
            int s = upTo(8);
            int value = upTo(100);
            Due.is(name + "first", plain.first(s, value), real.first(s, value));
        } else if (kind < 19) {
            tellHandler();
        } else if (upTo(4) == 0) {
            boolean wipes = random.nextBoolean();
            plain.anew(wipes);
            real.anew(wipes);
            if (wipes) {
                writeErrands();
            }
        }
    }

    private int odd() {
        return ODD[upTo(ODD.length)];
    }

    /** Calls with numbers that are mostly wrong: refused by both, or done by both. */
    private void oddCalls() {
        int a = odd();
        int b = odd();
        int c = odd();
        int d = odd();
        switch (upTo(8)) {
            case 0 -> Due.is(name + "slot odd", plain.slot(a, b, c), real.slot(a, b, c));
            case 1 -> Due.is(name + "first odd", plain.first(a, b), real.first(a, b));
            case 2 -> Due.is(name + "step odd", plain.step(a, b, c, d), real.step(a, b, c, d));
            case 3 -> Due.is(name + "threads odd", plain.threads(a), real.threads(a));
            case 4 -> Due.is(name + "handler odd", plain.handler(a, b, c, true), real.handler(a, b, c, true));
            case 5 -> Due.is(name + "submit odd", plain.submit(a), real.submit(a));
            case 6 -> Due.is(name + "beat odd", plain.beat(a), real.beat(a));
            default -> Due.is(name + "interrupt odd", plain.interrupt(a), real.interrupt(a));
        }
        Due.is(name + "run odd", plain.run(a, b), real.run(a, b));
        Due.is(name + "failure odd", plain.failure(a, b), real.failure(a, b));
        Due.is(name + "trace odd", plain.trace(a, b), real.trace(a, b));
        Due.is(name + "child odd", plain.child(a, b), real.child(a, b));
        Due.is(name + "value odd", plain.value(a, b), real.value(a, b));
        Due.is(name + "seen odd", plain.seen(a, b), real.seen(a, b));
        Due.is(name + "remark odd", plain.remark(a, b), real.remark(a, b));
        Due.is(name + "handled odd", plain.handled(a, b), real.handled(a, b));
        Due.is(name + "order odd", plain.order(a), real.order(a));
        Due.is(name + "count odd", plain.count(a), real.count(a));
    }

    private void compareAll() {
        for (int what = -1; what < 25; what++) {
            Due.is(name + "count(" + what + ")", plain.count(what), real.count(what));
        }
        for (int r = 0; r <= plain.count(0); r++) {
            compareRun(r);
        }
        for (int i = 0; i <= Math.min(1001, plain.count(8)); i++) {
            for (int what = 0; what < 4; what++) {
                Due.is(name + "seen(" + i + ", " + what + ")", plain.seen(i, what), real.seen(i, what));
            }
        }
        for (int i = 0; i <= plain.count(9); i++) {
            for (int what = 0; what < 4; what++) {
                Due.is(name + "handled(" + i + ", " + what + ")", plain.handled(i, what), real.handled(i, what));
            }
        }
        for (int i = 0; i <= Math.min(2001, plain.count(10)); i++) {
            Due.is(name + "order(" + i + ")", plain.order(i), real.order(i));
        }
    }

    private void compareRun(int r) {
        for (int what = -1; what < 14; what++) {
            Due.is(name + "run(" + r + ", " + what + ")", plain.run(r, what), real.run(r, what));
        }
        for (int what = -1; what < 6; what++) {
            Due.is(name + "failure(" + r + ", " + what + ")", plain.failure(r, what), real.failure(r, what));
        }
        for (int i = -1; i < 9; i++) {
            Due.is(name + "trace(" + r + ", " + i + ")", plain.trace(r, i), real.trace(r, i));
            Due.is(name + "child(" + r + ", " + i + ")", plain.child(r, i), real.child(r, i));
            Due.is(name + "value(" + r + ", " + i + ")", plain.value(r, i), real.value(r, i));
            Due.is(name + "remark(" + r + ", " + i + ")", plain.remark(r, i), real.remark(r, i));
        }
    }
}
