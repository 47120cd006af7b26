/**
 * An object under test that counts its calls: nothing is promised behind the 512th, so a test that asks more of one
 * object is wrong itself.
 */
final class Counted {
    private static final int MOST_CALLS = 512;

    private final ObsMessages x = new ObsMessages();
    private int calls = 0;

    private ObsMessages next() {
        calls++;
        if (calls == MOST_CALLS + 1) {
            Checks.due("a test's calls of one object", calls, MOST_CALLS);
        }
        return x;
    }

    void element(int version, int code, int scale, int reference, int width) {
        next().element(version, code, scale, reference, width);
    }

    boolean drop(int version, int code) {
        return next().drop(version, code);
    }

    void version(int n) {
        next().version(n);
    }

    int append(int list, int descriptor) {
        return next().append(list, descriptor);
    }

    void clear(int list) {
        next().clear(list);
    }

    int compile() {
        return next().compile();
    }

    int fault(int what) {
        return next().fault(what);
    }

    void put(int subset, int i, long v) {
        next().put(subset, i, v);
    }

    long get(int subset, int i) {
        return next().get(subset, i);
    }

    int fields(int subset) {
        return next().fields(subset);
    }

    int field(int subset, int i, int what) {
        return next().field(subset, i, what);
    }

    long reference(int subset, int i) {
        return next().reference(subset, i);
    }

    int find(int subset, int code, int place, int nth) {
        return next().find(subset, code, place, nth);
    }

    int write(int n, boolean packed) {
        return next().write(n, packed);
    }

    int byteAt(int i) {
        return next().byteAt(i);
    }

    int feed(int word, int n) {
        return next().feed(word, n);
    }

    int read() {
        return next().read();
    }

    void point(int i, long v) {
        next().point(i, v);
    }

    int pack(int bits) {
        return next().pack(bits);
    }

    long packedAt(int i) {
        return next().packedAt(i);
    }

    int group(int what) {
        return next().group(what);
    }
}
