/** A GraphKeep that refuses to be used for more calls than the document promises to answer. */
final class Real implements Face {
    static final int MOST_CALLS = 512;

    private final GraphKeep keep = new GraphKeep();
    private int calls = 0;

    private GraphKeep keep() {
        calls++;
        if (calls > MOST_CALLS) {
            throw new AssertionError("the test makes more than " + MOST_CALLS + " calls on one object");
        }
        return keep;
    }

    int callsLeft() {
        return MOST_CALLS - calls;
    }

    @Override
    public boolean type(long word, int n) {
        return keep().type(word, n);
    }

    @Override
    public int node() {
        return keep().node();
    }

    @Override
    public boolean label(int n, int label, boolean on) {
        return keep().label(n, label, on);
    }

    @Override
    public boolean property(int thing, int n, int key, int kind, long v) {
        return keep().property(thing, n, key, kind, v);
    }

    @Override
    public int link(int start, int end, int type) {
        return keep().link(start, end, type);
    }

    @Override
    public void take(int thing, int n) {
        keep().take(thing, n);
    }

    @Override
    public int error() {
        return keep().error();
    }

    @Override
    public int done() {
        return keep().done();
    }

    @Override
    public int undo() {
        return keep().undo();
    }

    @Override
    public boolean begin() {
        return keep().begin();
    }

    @Override
    public int commit() {
        return keep().commit();
    }

    @Override
    public boolean rollback() {
        return keep().rollback();
    }

    @Override
    public int checkpoint() {
        return keep().checkpoint();
    }

    @Override
    public boolean cut(int n) {
        return keep().cut(n);
    }

    @Override
    public int recover() {
        return keep().recover();
    }

    @Override
    public int thing(int thing, int n, int what) {
        return keep().thing(thing, n, what);
    }

    @Override
    public int chain(int n, boolean out, int k) {
        return keep().chain(n, out, k);
    }

    @Override
    public boolean has(int n, int label) {
        return keep().has(n, label);
    }

    @Override
    public long value(int thing, int n, int key, int what) {
        return keep().value(thing, n, key, what);
    }

    @Override
    public int state(int what) {
        return keep().state(what);
    }
}
