/** Promises 1 to 5, 9, 10 and 15: frames, readers, identifiers, spans, gaps, what is wrong, who is touched. */
public final class TableTest {
    private static final int LOW = Integer.MIN_VALUE;
    private static final int HIGH = Integer.MAX_VALUE;

    public static void main(String[] args) {
        newObject();
        frames();
        fortyFrames();
        readers();
        identifiersByRank();
        identifiersOfSpans();
        spans();
        gaps();
        checkRulesInOrder();
        checkFramesByNumbers();
        checkTimeouts();
        checkRepeats();
        touched();
        Expect.end();
    }

    private static void newObject() {
        FrameTables x = new FrameTables();
        Expect.due("new: letter(0)", x.letter(0), -1);
        Expect.due("new: at(1)", x.at(1), -1);
        Expect.due("new: identifier(1)", x.identifier(1), -1);
        Expect.due("new: touched(1, 0)", x.touched(1, 0), -1);
        Expect.due("new: exact()", x.exact(), false);
        Expect.due("new: check()", x.check(), 0);
        Expect.due("new: print()", x.print(), 0);
        Expect.due("new: read()", x.read(), 0);
        Expect.due("new: frame", x.frame(1, 1, 0), 1);
        FrameTables y = new FrameTables();
        Expect.due("another new one: at(1)", y.at(1), -1);
    }

    private static void frames() {
        FrameTables x = new FrameTables();
        int[][] wrong = {
            {0, 1, 0}, {21, 1, 0}, {LOW, 1, 0}, {HIGH, 1, 0},
            {1, 0, 0}, {1, 61, 0}, {1, LOW, 0}, {1, HIGH, 0},
            {1, 1, -1}, {1, 1, 100}, {1, 1, LOW}, {1, 1, HIGH}};
        for (int[] w : wrong) {
            Expect.due("frame(" + w[0] + ", " + w[1] + ", " + w[2] + ")", x.frame(w[0], w[1], w[2]), -2);
        }
        Expect.due("refusals make no frame", x.at(1), -1);
        Expect.due("frame(1, 1, 0)", x.frame(1, 1, 0), 1);
        Expect.due("frame(20, 60, 99)", x.frame(20, 60, 99), 2);
        Expect.due("print()", x.print(), 31);
        Expect.due("text", Expect.letters(x), "frame 1 1 0 0\nframe 20 60 99 0\n");
    }

    private static void fortyFrames() {
        FrameTables x = new FrameTables();
        for (int i = 1; i <= 40; i++) {
            Expect.due("frame " + i, x.frame(1, 60, 99), i);
        }
        Expect.due("frame 41", x.frame(1, 60, 99), -4);
        Expect.due("frame 41, outside", x.frame(0, 60, 99), -2);
        Expect.due("at(40)", x.at(40), 0);
        Expect.due("at(41)", x.at(41), -1);
        Expect.due("identifier(40)", x.identifier(40), 1575);
    }

    private static void readers() {
        FrameTables x = new FrameTables();
        Expect.due("reader without frames", x.reader(1, 2, 5), -1);
        x.frame(5, 10, 0);
        Expect.due("reader(0, 1, 5)", x.reader(0, 1, 5), -1);
        Expect.due("reader(2, 1, 5)", x.reader(2, 1, 5), -1);
        Expect.due("reader(LOW, 1, 5)", x.reader(LOW, 1, 5), -1);
        Expect.due("reader(1, 0, 5)", x.reader(1, 0, 5), -1);
        Expect.due("reader(1, 21, 5)", x.reader(1, 21, 5), -1);
        Expect.due("reader(1, HIGH, 5)", x.reader(1, HIGH, 5), -1);
        Expect.due("-1 before -2", x.reader(1, 21, -5), -1);
        Expect.due("reader(1, 1, -1)", x.reader(1, 1, -1), -2);
        Expect.due("reader(1, 1, 10001)", x.reader(1, 1, 10001), -2);
        Expect.due("-2 before -3", x.reader(1, 5, 10001), -2);
        Expect.due("its sender", x.reader(1, 5, 5), -3);
        Expect.due("its sender with 0", x.reader(1, 5, 0), -3);
        Expect.due("refusals make no reader", x.check(), 2001);
        Expect.due("none yet, not", x.reader(1, 1, 0), 0);
        Expect.due("first", x.reader(1, 1, 1), 1);
        Expect.due("last node", x.reader(1, 20, 10000), 2);
        Expect.due("same node again", x.reader(1, 20, 9), 2);
        Expect.due("not any more", x.reader(1, 1, 0), 1);
        Expect.due("not any more, again", x.reader(1, 1, 0), 1);
        x.print();
        Expect.due("its time-out", Expect.letters(x), "frame 5 10 0 0 reads 20 9\n");
        x.frame(20, 10, 0);
        Expect.due("another frame's reader", x.reader(2, 5, 3), 1);
        Expect.due("the first frame's readers", x.reader(1, 5 + 1, 3), 2);
        FrameTables all = new FrameTables();
        all.frame(20, 1, 1);
        for (int node = 1; node <= 19; node++) {
            Expect.due("reader " + node, all.reader(1, node, node), node);
        }
    }

    private static void identifiersByRank() {
        FrameTables x = new FrameTables();
        Expect.due("identifier(1), no frames", x.identifier(1), -1);
        x.frame(1, 1, 24);
        x.frame(1, 1, 0);
        x.frame(1, 1, 24);
        x.frame(1, 1, 25);
        x.frame(1, 1, 49);
        x.frame(1, 1, 50);
        x.frame(1, 1, 74);
        x.frame(1, 1, 75);
        x.frame(1, 1, 99);
        x.frame(1, 1, 7);
        int[] want = {2, 0, 3, 512, 513, 1024, 1025, 1536, 1537, 1};
        for (int i = 0; i < want.length; i++) {
            Expect.due("identifier(" + (i + 1) + ")", x.identifier(i + 1), want[i]);
        }
        Expect.due("identifier(0)", x.identifier(0), -1);
        Expect.due("identifier(11)", x.identifier(11), -1);
        Expect.due("identifier(LOW)", x.identifier(LOW), -1);
        Expect.due("identifier(HIGH)", x.identifier(HIGH), -1);
    }

    private static void identifiersOfSpans() {
        FrameTables x = new FrameTables();
        x.frame(1, 1, 3);
        x.frame(1, 1, 2);
        x.frame(1, 1, 2);
        x.frame(1, 1, 90);
        Expect.due("span(0, 100, 101)", x.span(0, 100, 101), 2);
        Expect.due("last by rank", x.identifier(1), -4);
        Expect.due("first by rank", x.identifier(2), 100);
        Expect.due("second by number", x.identifier(3), 101);
        Expect.due("another kind", x.identifier(4), 1536);
        x.frame(1, 1, 0);
        Expect.due("a new one goes before", x.identifier(5), 100);
        Expect.due("the first one then", x.identifier(2), 101);
        Expect.due("the second one then", x.identifier(3), -4);
    }

    private static void spans() {
        FrameTables x = new FrameTables();
        Expect.due("span(-1, ..)", x.span(-1, 0, 1), -1);
        Expect.due("span(4, ..)", x.span(4, 0, 1), -1);
        Expect.due("span(LOW, ..)", x.span(LOW, 5, 1), -1);
        Expect.due("span(HIGH, ..)", x.span(HIGH, 0, 5000), -1);
        Expect.due("from -1", x.span(0, -1, 1), -2);
        Expect.due("from 2048", x.span(3, 2048, 2048), -2);
        Expect.due("to 2048", x.span(3, 2047, 2048), -2);
        Expect.due("to below from", x.span(0, 5, 4), -2);
        Expect.due("-2 before -3", x.span(0, 600, 599), -2);
        Expect.due("meets the next one", x.span(0, 0, 512), -3);
        Expect.due("meets the one before", x.span(1, 511, 600), -3);
        Expect.due("around another", x.span(0, 0, 2047), -3);
        Expect.due("inside another", x.span(0, 700, 701), -3);
        Expect.due("its own again", x.span(0, 0, 511), 512);
        Expect.due("one identifier", x.span(3, 2047, 2047), 1);
        Expect.due("what is free now", x.span(2, 1024, 2046), 1023);
        Expect.due("not one more", x.span(2, 1024, 2047), -3);
        Expect.due("kind 0", x.span(0, 0, 0), 1);
        Expect.due("kind 1 down to it", x.span(1, 1, 1023), 1023);
        x.frame(1, 1, 30);
        Expect.due("identifier out of the new span", x.identifier(1), 1);
        Expect.due("a refusal", x.span(1, 0, 5), -3);
        Expect.due("changes nothing", x.identifier(1), 1);
    }

    private static void gaps() {
        FrameTables x = new FrameTables();
        Expect.due("gap(1, 0), no frames", x.gap(1, 0), -1);
        x.frame(1, 10, 0);
        x.frame(2, 60, 0);
        Expect.due("gap(1, 10)", x.gap(1, 10), 1);
        Expect.due("gap(1, 11)", x.gap(1, 11), -2);
        Expect.due("gap(1, -1)", x.gap(1, -1), -2);
        Expect.due("gap(1, LOW)", x.gap(1, LOW), -2);
        Expect.due("gap(0, 0)", x.gap(0, 0), -1);
        Expect.due("gap(3, -1)", x.gap(3, -1), -1);
        Expect.due("gap(2, 60)", x.gap(2, 60), 1);
        Expect.due("gap(2, 61)", x.gap(2, 61), -2);
        x.print();
        Expect.due("gaps", Expect.letters(x), "frame 1 10 0 10\nframe 2 60 0 60\n");
        Expect.due("gap(1, 0)", x.gap(1, 0), 1);
        x.print();
        Expect.due("gaps then", Expect.letters(x), "frame 1 10 0 0\nframe 2 60 0 60\n");
    }

    private static void checkRulesInOrder() {
        FrameTables x = new FrameTables();
        x.frame(1, 10, 0);
        x.frame(1, 10, 0);
        Expect.due("nobody reads", x.check(), 2001);
        x.span(0, 7, 7);
        Expect.due("no identifier", x.check(), 1002);
        x.reader(1, 2, 9);
        x.span(0, 7, 8);
        Expect.due("nobody reads the second", x.check(), 2002);
        x.reader(2, 2, 10);
        Expect.due("a time-out too short", x.check(), 3001);
        x.reader(1, 2, 10);
        Expect.due("the same twice", x.check(), 4002);
        Expect.due("it changes nothing", x.check(), 4002);
    }

    private static void checkFramesByNumbers() {
        FrameTables x = new FrameTables();
        for (int i = 1; i <= 5; i++) {
            x.frame(i, 10, 10 - i);
            x.reader(i, 20, 10);
        }
        Expect.due("nothing wrong", x.check(), 0);
        x.span(0, 0, 2);
        Expect.due("the first by number, not by rank", x.check(), 1001);
        x.span(0, 0, 4);
        x.reader(5, 20, 0);
        x.reader(3, 20, 0);
        Expect.due("nobody reads 3 and 5", x.check(), 2003);
        x.reader(3, 20, 9);
        x.reader(5, 20, 9);
        Expect.due("short for 3 and 5", x.check(), 3003);
    }

    private static void checkTimeouts() {
        FrameTables x = new FrameTables();
        x.frame(3, 60, 0);
        x.reader(1, 1, 60);
        Expect.due("as long as the period", x.check(), 0);
        x.reader(1, 20, 59);
        Expect.due("the last node's is short", x.check(), 3001);
        x.reader(1, 20, 0);
        Expect.due("one that does not read has none", x.check(), 0);
    }

    private static void checkRepeats() {
        FrameTables x = new FrameTables();
        int[][] frames = {{1, 10, 5}, {2, 10, 5}, {1, 11, 5}, {1, 10, 6}, {2, 11, 6}};
        for (int i = 0; i < frames.length; i++) {
            x.frame(frames[i][0], frames[i][1], frames[i][2]);
            x.reader(i + 1, 9, 100);
        }
        Expect.due("two alike of three are no repeat", x.check(), 0);
        x.frame(1, 11, 5);
        x.reader(6, 9, 100);
        x.frame(1, 10, 5);
        x.reader(7, 9, 100);
        Expect.due("6 is as 3, 7 as 1", x.check(), 4006);
    }

    private static void touched() {
        FrameTables x = new FrameTables();
        x.frame(10, 5, 5);
        Expect.due("the sender alone", x.touched(1, 0), 10);
        Expect.due("no more", x.touched(1, 1), 0);
        x.reader(1, 20, 7);
        x.reader(1, 1, 7);
        x.reader(1, 11, 7);
        x.reader(1, 9, 7);
        x.reader(1, 11, 0);
        int[] want = {1, 9, 10, 20, 0, 0};
        for (int i = 0; i < want.length; i++) {
            Expect.due("touched(1, " + i + ")", x.touched(1, i), want[i]);
        }
        Expect.due("touched(1, -1)", x.touched(1, -1), 0);
        Expect.due("touched(1, LOW)", x.touched(1, LOW), 0);
        Expect.due("touched(1, HIGH)", x.touched(1, HIGH), 0);
        Expect.due("touched(0, 0)", x.touched(0, 0), -1);
        Expect.due("touched(2, 0)", x.touched(2, 0), -1);
        x.frame(1, 5, 5);
        Expect.due("touched(2, 0)", x.touched(2, 0), 1);
        Expect.due("touched(2, 1)", x.touched(2, 1), 0);
    }
}
