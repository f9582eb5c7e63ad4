/**
 * A FragmentLog that counts what it is asked: of one object the document promises 512 answers, and a
 * test that asks for more would test what is free.
 */
final class Asked {
    static final int MOST_CALLS = 512;

    private final FragmentLog log = new FragmentLog();
    private int calls = 0;

    int calls() {
        return calls;
    }

    private FragmentLog asked() {
        calls++;
        if (calls > MOST_CALLS) {
            throw new AssertionError("a test asks one object more than 512 times");
        }
        return log;
    }

    void clear(int size) {
        asked().clear(size);
    }

    int feed(int many, int a, int b, int c, int d) {
        return asked().feed(many, a, b, c, d);
    }

    int erase() {
        return asked().erase();
    }

    int check(int kind) {
        return asked().check(kind);
    }

    int append() {
        return asked().append();
    }

    int raw(int kind) {
        return asked().raw(kind);
    }

    int put(int place, int value) {
        return asked().put(place, value);
    }

    int cut(int n) {
        return asked().cut(n);
    }

    int begin(int place) {
        return asked().begin(place);
    }

    int read() {
        return asked().read();
    }

    int octet(int k) {
        return asked().octet(k);
    }

    int first() {
        return asked().first();
    }

    int count(int what) {
        return asked().count(what);
    }

    int told(int k, int what) {
        return asked().told(k, what);
    }

    int log(int k) {
        return asked().log(k);
    }
}
