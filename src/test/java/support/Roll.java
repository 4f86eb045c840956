/**
 * A CrowdRoll whose calls are counted: what a call answers after the 512th is free, so no test may rest on it.
 */
final class Roll {
    private static final int MOST_CALLS = 512;

    private final CrowdRoll inside = new CrowdRoll();
    private int calls = 0;

    private CrowdRoll counted() {
        calls++;
        if (calls > MOST_CALLS) {
            throw new IllegalStateException("a test made more than " + MOST_CALLS + " calls of one object");
        }
        return inside;
    }

    int callsLeft() {
        return MOST_CALLS - calls;
    }

    /** A call by its name, with arguments as Face passes them. */
    int call(String name, int a, int b, int c, int d, long seed) {
        return Face.call(counted(), name, a, b, c, d, seed);
    }

    int call(String name, int a, int b, int c, int d) {
        return call(name, a, b, c, d, 1L);
    }

    int member(int m, long seed) {
        return counted().member(m, seed);
    }

    int join(int m, int y) {
        return counted().join(m, y);
    }

    int leave(int m) {
        return counted().leave(m);
    }

    int turn(int m) {
        return counted().turn(m);
    }

    int fall(int m) {
        return counted().fall(m);
    }

    int rise(int m) {
        return counted().rise(m);
    }

    int deliver(int letter) {
        return counted().deliver(letter);
    }

    int lose(int letter) {
        return counted().lose(letter);
    }

    int twice(int letter) {
        return counted().twice(letter);
    }

    int cut(int a, int b) {
        return counted().cut(a, b);
    }

    int heal(int a, int b) {
        return counted().heal(a, b);
    }

    int letters(int what) {
        return counted().letters(what);
    }

    int underWay(int k) {
        return counted().underWay(k);
    }

    int letter(int l, int what) {
        return counted().letter(l, what);
    }

    int carries(int l, int i, int what) {
        return counted().carries(l, i, what);
    }

    int state(int m, int what) {
        return counted().state(m, what);
    }

    int news(int m, int x, int what) {
        return counted().news(m, x, what);
    }

    int as(int m, int x, int kind) {
        return counted().as(m, x, kind);
    }

    int round(int m, int i) {
        return counted().round(m, i);
    }

    int next(int m) {
        return counted().next(m);
    }

    int copy(int m, int from, int n, int to) {
        return counted().copy(m, from, n, to);
    }

    int table(int i) {
        return counted().table(i);
    }

    int agree() {
        return counted().agree();
    }

    int apart(int what) {
        return counted().apart(what);
    }

    int count(int x, int kind) {
        return counted().count(x, kind);
    }

    int way(int m, int x) {
        return counted().way(m, x);
    }

    int wayAt(int i) {
        return counted().wayAt(i);
    }

    int forge(int i, int l) {
        return counted().forge(i, l);
    }

    int check(int m, int x, int kind, int term) {
        return counted().check(m, x, kind, term);
    }

    int replay() {
        return counted().replay();
    }

    int image() {
        return counted().image();
    }

    int back() {
        return counted().back();
    }

    int trace(int what) {
        return counted().trace(what);
    }

    int again() {
        return counted().again();
    }

    int status(int by) {
        return counted().status(by);
    }
}
