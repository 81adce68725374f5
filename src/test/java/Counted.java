/**
 * A FrameTables whose calls are counted: what it answers behind the 512th one is free, so a test
 * that asks for more than that is wrong itself.
 */
final class Counted {
    static final int LOW = Integer.MIN_VALUE;
    static final int HIGH = Integer.MAX_VALUE;
    private static final int MOST_CALLS = 512;

    private final FrameTables table = new FrameTables();
    private int calls = 0;

    private FrameTables call() {
        calls++;
        if (calls == MOST_CALLS + 1) {
            Expect.due("the test itself: calls of one object", calls, MOST_CALLS);
        }
        return table;
    }

    int callsLeft() {
        return MOST_CALLS - calls;
    }

    int frame(int sender, int period, int rank) {
        return call().frame(sender, period, rank);
    }

    int reader(int frame, int node, int timeout) {
        return call().reader(frame, node, timeout);
    }

    int identifier(int frame) {
        return call().identifier(frame);
    }

    int span(int kind, int from, int to) {
        return call().span(kind, from, to);
    }

    int offset(long steps) {
        return call().offset(steps);
    }

    int at(int frame) {
        return call().at(frame);
    }

    boolean exact() {
        return call().exact();
    }

    int gap(int frame, int ticks) {
        return call().gap(frame, ticks);
    }

    int check() {
        return call().check();
    }

    void sign(int c) {
        call().sign(c);
    }

    int read() {
        return call().read();
    }

    int print() {
        return call().print();
    }

    int letter(int i) {
        return call().letter(i);
    }

    int touched(int frame, int i) {
        return call().touched(frame, i);
    }

    /** So many frames, all with the same numbers. */
    void frames(int howMany, int sender, int period, int rank) {
        for (int i = 0; i < howMany; i++) {
            frame(sender, period, rank);
        }
    }

    /** Types a text of characters 1 to 255, four signs a call, the last call filled up with 0. */
    void type(String text) {
        for (int i = 0; i < text.length(); i += 4) {
            int four = 0;
            for (int k = 0; k < 4; k++) {
                four = four << 8 | (i + k < text.length() ? text.charAt(i + k) : 0);
            }
            sign(four);
        }
    }

    int readText(String text) {
        type(text);
        return read();
    }

    /** The text that is there, letter by letter. */
    String letters() {
        StringBuilder found = new StringBuilder();
        for (int letter = letter(0); letter >= 0; letter = letter(found.length())) {
            found.append((char) letter);
        }
        return found.toString();
    }

    String printed() {
        print();
        return letters();
    }

    /** The offsets of all frames. */
    String row() {
        StringBuilder found = new StringBuilder();
        int offset = at(1);
        for (int frame = 2; offset >= 0; frame++) {
            found.append(found.length() > 0 ? " " : "").append(offset);
            offset = at(frame);
        }
        return found.toString();
    }

    /** The nodes that a frame's change touches. */
    String nodes(int frame) {
        StringBuilder found = new StringBuilder();
        int node = touched(frame, 0);
        for (int i = 1; node > 0; i++) {
            found.append(found.length() > 0 ? " " : "").append(node);
            node = touched(frame, i);
        }
        return found.toString();
    }

    /** All that can be asked of it; its text is the written one then. */
    String state() {
        StringBuilder found = new StringBuilder();
        found.append(exact()).append(' ').append(check()).append(" offsets ").append(row());
        for (int frame = 1; at(frame) >= 0; frame++) {
            found.append(" identifier ").append(identifier(frame)).append(" nodes ").append(nodes(frame));
        }
        found.append(" text ").append(letters());
        return found.append(" table ").append(printed()).toString();
    }
}
