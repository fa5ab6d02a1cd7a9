/** A judge whose calls are counted: the document promises nothing behind the 512th, so no test may go there. */
final class Counted {
    private static final int MOST_CALLS = 512;
    private final CoinJudge judge = new CoinJudge();
    private int calls;

    private CoinJudge next() {
        calls++;
        if (calls == MOST_CALLS + 1) {
            Check.same("calls of one object", calls, MOST_CALLS);
        }
        return judge;
    }

    int feed(int a, int b, int c, int d, int e) {
        return next().feed(a, b, c, d, e);
    }

    int end(int n) {
        return next().end(n);
    }

    int patch(int i, int v) {
        return next().patch(i, v);
    }

    int key(int n, int form) {
        return next().key(n, form);
    }

    int digest(int what) {
        return next().digest(what);
    }

    void open(int parent, long time) {
        next().open(parent, time);
    }

    int tx(long version, long lock) {
        return next().tx(version, lock);
    }

    int input(int b, int t, int o, long sequence) {
        return next().input(b, t, o, sequence);
    }

    int output(long value) {
        return next().output(value);
    }

    int push(int i) {
        return next().push(i);
    }

    int sign(int i, int n, int type) {
        return next().sign(i, n, type);
    }

    int seal(int spoil) {
        return next().seal(spoil);
    }

    int judge() {
        return next().judge();
    }

    int tell(int what) {
        return next().tell(what);
    }

    long block(int b, int what) {
        return next().block(b, what);
    }

    long coin(int b, int t, int o) {
        return next().coin(b, t, o);
    }

    long coins() {
        return next().coins();
    }

    long word(int i) {
        return next().word(i);
    }
}
