/** An ErrandGuild behind the Face. */
final class RealGuild implements Face {
    private final ErrandGuild x = new ErrandGuild();

    @Override public boolean slot(int s, int manner, int first) { return x.slot(s, manner, first); }
    @Override public boolean first(int s, int value) { return x.first(s, value); }
    @Override public int step(int e, int op, int a, int b) { return x.step(e, op, a, b); }
    @Override public void anew(boolean wipes) { x.anew(wipes); }
    @Override public boolean threads(int n) { return x.threads(n); }
    @Override public boolean handler(int l, int of, int effect, boolean t) { return x.handler(l, of, effect, t); }
    @Override public int submit(int e) { return x.submit(e); }
    @Override public int beat(int n) { return x.beat(n); }
    @Override public boolean interrupt(int run) { return x.interrupt(run); }
    @Override public int run(int r, int what) { return x.run(r, what); }
    @Override public int failure(int r, int what) { return x.failure(r, what); }
    @Override public int trace(int r, int i) { return x.trace(r, i); }
    @Override public int child(int r, int i) { return x.child(r, i); }
    @Override public int value(int r, int s) { return x.value(r, s); }
    @Override public int seen(int i, int what) { return x.seen(i, what); }
    @Override public int remark(int root, int i) { return x.remark(root, i); }
    @Override public int handled(int i, int what) { return x.handled(i, what); }
    @Override public int order(int i) { return x.order(i); }
    @Override public int count(int what) { return x.count(what); }
}
