/** A FrettedStrings that is used for as long as something is promised of it: for 512 calls. */
final class Instrument {
    static final int MOST_CALLS = 512;

    private final FrettedStrings strings = new FrettedStrings();
    private int calls;

    int callsLeft() {
        return MOST_CALLS - calls;
    }

    private FrettedStrings next() {
        if (calls >= MOST_CALLS) {
            throw new IllegalStateException("the test makes more than 512 calls of one object");
        }
        calls++;
        return strings;
    }

    int fret(int position, int height) {
        return next().fret(position, height);
    }

    int level(int fret, int height) {
        return next().level(fret, height);
    }

    int fretInfo(int fret, int what) {
        return next().fretInfo(fret, what);
    }

    int mostFor(int fret) {
        return next().mostFor(fret);
    }

    int tune(int string, int tension) {
        return next().tune(string, tension);
    }

    int press(int string, int fret) {
        return next().press(string, fret);
    }

    int touch(int string, int position) {
        return next().touch(string, position);
    }

    int pluck(int string, int position, int force) {
        return next().pluck(string, position, force);
    }

    int damp(int string) {
        return next().damp(string);
    }

    int stringInfo(int string, int what) {
        return next().stringInfo(string, what);
    }

    int modeInfo(int string, int mode, int what) {
        return next().modeInfo(string, mode, what);
    }

    int node(int string, int mode, int position) {
        return next().node(string, mode, position);
    }

    int nodeAgain(int string, int mode, int position) {
        return next().nodeAgain(string, mode, position);
    }

    int set(int what, int value) {
        return next().set(what, value);
    }

    int run(int ticks) {
        return next().run(ticks);
    }

    int ticksTo(int string, int mode) {
        return next().ticksTo(string, mode);
    }

    int beat(int a, int n, int b, int m) {
        return next().beat(a, n, b, m);
    }

    int slowest(int a, int b, int what) {
        return next().slowest(a, b, what);
    }

    int played(int index, int what) {
        return next().played(index, what);
    }

    int count(int what) {
        return next().count(what);
    }

    int undo() {
        return next().undo();
    }

    int type(int character) {
        return next().type(character);
    }

    int clearText() {
        return next().clearText();
    }

    int fault(int what) {
        return next().fault(what);
    }

    int play() {
        return next().play();
    }
}
