/** The calls of the document's face, so that one test can ask two writings of it. */
interface Face {
    boolean slot(int s, int manner, int first);

    boolean first(int s, int value);

    int step(int e, int op, int a, int b);

    void anew(boolean wipes);

    boolean threads(int n);

    boolean handler(int level, int of, int effect, boolean throwing);

    int submit(int e);

    int beat(int n);

    boolean interrupt(int run);

    int run(int r, int what);

    int failure(int r, int what);

    int trace(int r, int i);

    int child(int r, int i);

    int value(int r, int s);

    int seen(int i, int what);

    int remark(int root, int i);

    int handled(int i, int what);

    int order(int i);

    int count(int what);
}
