/** A KeyFob whose calls are counted: what it answers behind the 512th is free, so no test may ask for it. */
final class Fob {
    static final int MOST_CALLS = 512;

    final KeyFob inner = new KeyFob();
    private int calls;

    int calls() {
        return calls;
    }

    private KeyFob counted() {
        calls++;
        if (calls > MOST_CALLS) {
            throw new IllegalStateException("the test makes more than " + MOST_CALLS + " calls");
        }
        return inner;
    }

    int feed(int a, int b, int c, int d, int e) {
        return counted().feed(a, b, c, d, e);
    }

    int trim(int n) {
        return counted().trim(n);
    }

    int send(int command) {
        return counted().send(command);
    }

    int out(int i) {
        return counted().out(i);
    }

    int keep(int a, int n) {
        return counted().keep(a, n);
    }

    int touch() {
        return counted().touch();
    }

    int power() {
        return counted().power();
    }

    int advance(int k, int v) {
        return counted().advance(k, v);
    }

    int check() {
        return counted().check();
    }

    int forged(int bit) {
        return counted().forged(bit);
    }

    int count(int what) {
        return counted().count(what);
    }

    int key(int k, int what, int i) {
        return counted().key(k, what, i);
    }
}
