/** The document's face, so that one run of calls can go to the class and to the Model alike. */
interface Face {
    boolean type(long word, int n);

    int node();

    boolean label(int n, int label, boolean on);

    boolean property(int thing, int n, int key, int kind, long v);

    int link(int start, int end, int type);

    void take(int thing, int n);

    int error();

    int done();

    int undo();

    boolean begin();

    int commit();

    boolean rollback();

    int checkpoint();

    boolean cut(int n);

    int recover();

    int thing(int thing, int n, int what);

    int chain(int n, boolean out, int k);

    boolean has(int n, int label);

    long value(int thing, int n, int key, int what);

    int state(int what);
}
