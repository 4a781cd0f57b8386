/**
 * An object under test. It counts its calls, since the document promises nothing behind the 512th: a test
 * that goes on longer is itself at fault.
 */
final class Subject {
    static final int MOST_CALLS = 512;

    private final NeedTables object = new NeedTables();
    private int calls = 0;

    /** Says a text's signs, without looking at the answers. */
    void write(String text) {
        for (int i = 0; i < text.length(); i++) {
            say(text.charAt(i));
        }
    }

    /** Makes a text a BODY; a test whose text can not be one is itself at fault. */
    void put(int function, String text) {
        write(text);
        int answer = body(function);
        if (answer != text.length()) {
            throw new IllegalStateException("body(" + function + ") of " + text + " answered " + answer);
        }
    }

    /** How many calls the document still speaks of. */
    int left() {
        return MOST_CALLS - calls;
    }

    private NeedTables next() {
        if (calls == MOST_CALLS) {
            throw new IllegalStateException("a test goes on behind the call " + MOST_CALLS);
        }
        calls++;
        return object;
    }

    int say(int sign) {
        return next().say(sign);
    }

    int wipe() {
        return next().wipe();
    }

    int fault(int function) {
        return next().fault(function);
    }

    int body(int function) {
        return next().body(function);
    }

    int node(int function, int node, int what) {
        return next().node(function, node, what);
    }

    int run(int function, int arguments, int way, int what) {
        return next().run(function, arguments, way, what);
    }

    int may(int function, int there) {
        return next().may(function, there);
    }

    int must(int function) {
        return next().must(function);
    }

    int joint(int function, int i) {
        return next().joint(function, i);
    }

    int uses(int function, int argument) {
        return next().uses(function, argument);
    }

    int part(int function, int node, int what) {
        return next().part(function, node, what);
    }

    int ends(int function, int what) {
        return next().ends(function, what);
    }

    int matters(int function, int argument) {
        return next().matters(function, argument);
    }

    int steps(int function, int way) {
        return next().steps(function, way);
    }

    int unlike(int function, int way, int other, int what) {
        return next().unlike(function, way, other, what);
    }

    int told(int what) {
        return next().told(what);
    }
}
