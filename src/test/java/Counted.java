/** An object under test that refuses more calls than the document promises anything about. */
final class Counted {
    static final int MOST_CALLS = 512;

    private final DeltaSync x = new DeltaSync();
    private int calls = 0;

    /** How many calls the document still speaks of. */
    int left() {
        return MOST_CALLS - calls;
    }

    private DeltaSync used() {
        if (calls == MOST_CALLS) {
            throw new IllegalStateException("the test makes more than " + MOST_CALLS + " calls");
        }
        calls++;
        return x;
    }

    int feed(int file, int v) {
        return used().feed(file, v);
    }

    boolean cut(int file, int n) {
        return used().cut(file, n);
    }

    boolean put(int file, int i, int b) {
        return used().put(file, i, b);
    }

    boolean shape(int size, int width) {
        return used().shape(size, width);
    }

    int sign() {
        return used().sign();
    }

    int sum(int block) {
        return used().sum(block);
    }

    int digest(int block, int k) {
        return used().digest(block, k);
    }

    int delta() {
        return used().delta();
    }

    int apply() {
        return used().apply();
    }

    int at(int which, int i) {
        return used().at(which, i);
    }

    int size(int which) {
        return used().size(which);
    }

    boolean change(int i, int b) {
        return used().change(i, b);
    }

    boolean push(int b) {
        return used().push(b);
    }

    boolean keep(int n) {
        return used().keep(n);
    }

    int sumAt(int file, int i, int n) {
        return used().sumAt(file, i, n);
    }

    int md5(int file, int k) {
        return used().md5(file, k);
    }

    boolean same() {
        return used().same();
    }

    int count(int what) {
        return used().count(what);
    }
}
