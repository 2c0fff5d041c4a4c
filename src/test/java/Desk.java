/** A RegisterDesk whose calls are counted: the document promises nothing behind the 512th. */
final class Desk {
    static final int MOST_CALLS = 512;

    private final RegisterDesk desk = new RegisterDesk();
    private int calls = 0;

    /** A desk with that program loaded, under that K and WAY. */
    static Desk of(String text, int k, int way) {
        return new Desk().with(k, way).loaded(text);
    }

    Desk said(String text) {
        for (int i = 0; i < text.length(); i++) {
            say(text.charAt(i));
        }
        return this;
    }

    Desk loaded(String text) {
        wipe();
        said(text);
        if (load() < 0) {
            throw new IllegalStateException("not taken: " + text);
        }
        return this;
    }

    /** Under another K and WAY. */
    Desk with(int k, int way) {
        colours(k);
        way(way);
        return this;
    }

    int callsLeft() {
        return MOST_CALLS - calls;
    }

    private RegisterDesk next() {
        calls++;
        if (calls > MOST_CALLS) {
            throw new IllegalStateException("a test makes more than " + MOST_CALLS + " calls of one object");
        }
        return desk;
    }

    int colours(int k) {
        return next().colours(k);
    }

    int way(int w) {
        return next().way(w);
    }

    int say(int sign) {
        return next().say(sign);
    }

    int wipe() {
        return next().wipe();
    }

    int fault() {
        return next().fault();
    }

    int load() {
        return next().load();
    }

    int instruction(int i, int what) {
        return next().instruction(i, what);
    }

    int live(int i) {
        return next().live(i);
    }

    int edges(int name) {
        return next().edges(name);
    }

    int weight(int value, int what) {
        return next().weight(value, what);
    }

    int step(int i) {
        return next().step(i);
    }

    int spilled(int i) {
        return next().spilled(i);
    }

    int rounds(int what) {
        return next().rounds(what);
    }

    int colour(int value) {
        return next().colour(value);
    }

    int code(int i, int what) {
        return next().code(i, what);
    }

    int run(int what) {
        return next().run(what);
    }

    int out(int i) {
        return next().out(i);
    }

    int spent(int what) {
        return next().spent(what);
    }

    int image(int n) {
        return next().image(n);
    }

    int restore(int n) {
        return next().restore(n);
    }

    int told(int what) {
        return next().told(what);
    }
}
