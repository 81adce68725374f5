/** Terms: FRAMES. Promises 1 a new object, 2 frame, 3 reader, 9 gap, 15 touched. */
public final class FramesTest {
    private static final int LOW = Counted.LOW;
    private static final int HIGH = Counted.HIGH;

    public static void main(String[] args) {
        newObject();
        newObjectsAreApart();
        numbersOfFrames();
        senders();
        periods();
        ranks();
        gapAtFirst();
        offsetAtFirst();
        readersAtFirst();
        frameAnswersItsNumber();
        frameOfNumbersThatAreNone();
        frameBehindForty();
        readerFromNowOn();
        readerNotAnyMore();
        readerHowManyDo();
        readerOfNoFrame();
        readerThatIsNoNode();
        readerTimeouts();
        readerThatSends();
        gapAnswersOne();
        gapOfNoFrame();
        gapBelowZero();
        gapAboveThePeriod();
        touchedByNumbers();
        touchedByAllNodes();
        touchedNone();
        touchedOfNoFrame();
        Expect.end();
    }

    private static void newObject() {
        Expect.sentence("1: No FRAMES, an empty text.");
        Counted x = new Counted();
        Expect.due("letter(0)", x.letter(0), -1);
        Expect.due("at(1)", x.at(1), -1);
        Expect.due("identifier(1)", x.identifier(1), -1);
        Expect.due("touched(1, 0)", x.touched(1, 0), -1);
        Expect.due("gap(1, 0)", x.gap(1, 0), -1);
        Expect.due("reader(1, 1, 1)", x.reader(1, 1, 1), -1);
        Expect.due("check()", x.check(), 0);
        Expect.due("print()", x.print(), 0);
        Expect.due("letter(0) of what is written", x.letter(0), -1);
        Expect.due("read()", x.read(), 0);
        Expect.due("offset(0)", x.offset(0), 0);
    }

    private static void newObjectsAreApart() {
        Expect.sentence("1: No FRAMES, an empty text. (also behind another object's)");
        Counted x = new Counted();
        x.frame(1, 2, 3);
        x.span(0, 9, 9);
        x.offset(3000);
        x.sign('a');
        Counted y = new Counted();
        Expect.due("at(1)", y.at(1), -1);
        Expect.due("letter(0)", y.letter(0), -1);
        Expect.due("exact()", y.exact(), false);
        Expect.due("frame(1, 2, 3)", y.frame(1, 2, 3), 1);
        Expect.due("identifier(1)", y.identifier(1), 0);
        Expect.due("the other one's identifier(1)", x.identifier(1), 9);
    }

    private static void numbersOfFrames() {
        Expect.sentence("FRAMES are numbered from 1 on, at most 40");
        Counted x = new Counted();
        for (int i = 1; i <= 40; i++) {
            Expect.due("at(" + i + ") before", x.at(i), -1);
            Expect.due("frame " + i, x.frame(1, 60, 99), i);
            Expect.due("at(" + i + ")", x.at(i), 0);
        }
        Expect.due("frame 41", x.frame(1, 60, 99), -4);
        Expect.due("at(0)", x.at(0), -1);
        Expect.due("at(41)", x.at(41), -1);
    }

    private static void senders() {
        Expect.sentence("a SENDER (node 1 .. 20)");
        Counted x = new Counted();
        int[] none = {0, 21, -1, -20, LOW, HIGH, 256 + 1};
        for (int sender : none) {
            Expect.due("frame(" + sender + ", 1, 0)", x.frame(sender, 1, 0), -2);
        }
        for (int sender = 1; sender <= 20; sender++) {
            Expect.due("frame(" + sender + ", 1, 0)", x.frame(sender, 1, 0), sender);
            Expect.due("its sender", x.touched(sender, 0), sender);
        }
    }

    private static void periods() {
        Expect.sentence("a PERIOD (1 .. 60 ticks)");
        Counted x = new Counted();
        int[] none = {0, 61, -1, -60, LOW, HIGH, 256 + 1};
        for (int period : none) {
            Expect.due("frame(1, " + period + ", 0)", x.frame(1, period, 0), -2);
        }
        Expect.due("frame(1, 1, 0)", x.frame(1, 1, 0), 1);
        Expect.due("frame(1, 60, 0)", x.frame(1, 60, 0), 2);
        Expect.due("both", x.printed(), "frame 1 1 0 0\nframe 1 60 0 0\n");
    }

    private static void ranks() {
        Expect.sentence("a RANK (0 .. 99)");
        Counted x = new Counted();
        int[] none = {-1, 100, -25, LOW, HIGH, 256 + 1};
        for (int rank : none) {
            Expect.due("frame(1, 1, " + rank + ")", x.frame(1, 1, rank), -2);
        }
        Expect.due("frame(1, 1, 0)", x.frame(1, 1, 0), 1);
        Expect.due("frame(1, 1, 99)", x.frame(1, 1, 99), 2);
        Expect.due("both", x.printed(), "frame 1 1 0 0\nframe 1 1 99 0\n");
    }

    /** A READ text before, since its frames have had the same numbers. */
    private static void gapAtFirst() {
        Expect.sentence("a GAP, at first 0");
        Counted x = new Counted();
        x.frame(1, 10, 0);
        Expect.due("a first one", x.printed(), "frame 1 10 0 0\n");
        x.gap(1, 5);
        x.frame(1, 10, 0);
        Expect.due("a second one", x.printed(), "frame 1 10 0 5\nframe 1 10 0 0\n");
        x.read();
        x.read();
        x.frame(1, 10, 0);
        Expect.due("a first one again", x.printed(), "frame 1 10 0 0\n");
    }

    private static void offsetAtFirst() {
        Expect.sentence("an OFFSET, at first 0");
        Counted x = new Counted();
        x.frames(2, 1, 2, 0);
        Expect.due("both", x.row(), "0 0");
        x.offset(3000);
        x.frame(1, 2, 0);
        Expect.due("a third one", x.row(), "0 1 0");
        x.read();
        x.read();
        x.frames(2, 1, 2, 0);
        Expect.due("two again", x.row(), "0 0");
    }

    private static void readersAtFirst() {
        Expect.sentence("A node READS a FRAME with a TIME-OUT, or not (at first).");
        Counted x = new Counted();
        x.frame(3, 10, 0);
        Expect.due("a first one", x.nodes(1), "3");
        Expect.due("nobody reads it", x.check(), 2001);
        for (int node = 1; node <= 20; node++) {
            x.reader(1, node, 99);
        }
        x.frame(3, 10, 0);
        Expect.due("a second one", x.nodes(2), "3");
        x.read();
        x.read();
        x.frame(4, 10, 0);
        Expect.due("a first one again", x.nodes(1), "4");
        Expect.due("its line", x.printed(), "frame 4 10 0 0\n");
    }

    private static void frameAnswersItsNumber() {
        Expect.sentence("2: A FRAME: its number.");
        Counted x = new Counted();
        Expect.due("frame(20, 60, 99)", x.frame(20, 60, 99), 1);
        Expect.due("frame(1, 1, 0)", x.frame(1, 1, 0), 2);
        Expect.due("the same again", x.frame(1, 1, 0), 3);
        Expect.due("all", x.printed(), "frame 20 60 99 0\nframe 1 1 0 0\nframe 1 1 0 0\n");
        x.read();
        Expect.due("a text that is not READ", x.readText("frame 1 1 1 1\nx"), -2);
        Expect.due("behind it", x.frame(1, 1, 0), 4);
        x.readText("frame 1 1 1 1\nframe 1 1 1 1");
        Expect.due("behind two that were READ", x.frame(1, 1, 0), 3);
    }

    private static void frameOfNumbersThatAreNone() {
        Expect.sentence("2: -2 a number is none");
        Counted x = new Counted();
        int[][] none = {{0, 0, -1}, {21, 61, 100}, {1, 0, 100}, {21, 1, -1}, {0, 61, 0}, {LOW, LOW, LOW}, {HIGH, HIGH, HIGH}};
        for (int[] n : none) {
            Expect.due("frame(" + n[0] + ", " + n[1] + ", " + n[2] + ")", x.frame(n[0], n[1], n[2]), -2);
        }
        Expect.due("at(1)", x.at(1), -1);
        Expect.due("the next one's number", x.frame(1, 1, 0), 1);
    }

    private static void frameBehindForty() {
        Expect.sentence("2: -4 there are 40");
        Counted x = new Counted();
        x.frames(39, 1, 60, 99);
        Expect.due("the 40th", x.frame(2, 60, 99), 40);
        Expect.due("one more", x.frame(3, 60, 99), -4);
        Expect.due("one more again", x.frame(3, 60, 99), -4);
        Expect.due("one more that is none", x.frame(0, 60, 99), -2);
        Expect.due("the 40th's sender", x.touched(40, 0), 2);
        Expect.due("touched(41, 0)", x.touched(41, 0), -1);
        Expect.due("a reader of the 40th", x.reader(40, 20, 1), 1);
        Expect.due("a reader of the 41st", x.reader(41, 20, 1), -1);
        x.read();
        Expect.due("room again", x.frame(3, 60, 99), 1);
    }

    private static void readerFromNowOn() {
        Expect.sentence("3: A node READS a FRAME from now on");
        Counted x = new Counted();
        x.frame(5, 10, 0);
        x.frame(6, 10, 0);
        x.reader(1, 1, 1);
        x.reader(1, 20, 10000);
        x.reader(2, 5, 7);
        Expect.due("readers", x.printed(), "frame 5 10 0 0 reads 1 1 reads 20 10000\nframe 6 10 0 0 reads 5 7\n");
        x.reader(1, 20, 9);
        Expect.due("another TIME-OUT", x.printed(), "frame 5 10 0 0 reads 1 1 reads 20 9\nframe 6 10 0 0 reads 5 7\n");
    }

    private static void readerNotAnyMore() {
        Expect.sentence("3: or, with TIME-OUT 0, not");
        Counted x = new Counted();
        x.frame(5, 10, 0);
        Expect.due("one that does not anyway", x.reader(1, 1, 0), 0);
        x.reader(1, 1, 10);
        x.reader(1, 2, 10);
        Expect.due("not any more", x.reader(1, 1, 0), 1);
        Expect.due("once more", x.reader(1, 1, 0), 1);
        Expect.due("who is left", x.nodes(1), "2 5");
        Expect.due("the last one", x.reader(1, 2, 0), 0);
        Expect.due("nobody reads it", x.check(), 2001);
        Expect.due("line", x.printed(), "frame 5 10 0 0\n");
        Expect.due("again", x.reader(1, 1, 3), 1);
    }

    private static void readerHowManyDo() {
        Expect.sentence("3: how many do");
        Counted x = new Counted();
        x.frame(20, 1, 1);
        x.frame(1, 1, 1);
        for (int node = 1; node <= 19; node++) {
            Expect.due("reader(1, " + node + ", 1)", x.reader(1, node, 1), node);
        }
        for (int node = 20; node >= 2; node--) {
            Expect.due("reader(2, " + node + ", 1)", x.reader(2, node, 1), 21 - node);
        }
        Expect.due("one that does already", x.reader(1, 19, 2), 19);
    }

    private static void readerOfNoFrame() {
        Expect.sentence("3: -1 there is no FRAME");
        Counted x = new Counted();
        Expect.due("reader(1, 2, 5) without FRAMES", x.reader(1, 2, 5), -1);
        x.frames(2, 5, 10, 0);
        int[] none = {0, 3, -1, 40, 41, LOW, HIGH};
        for (int frame : none) {
            Expect.due("reader(" + frame + ", 2, 5)", x.reader(frame, 2, 5), -1);
            Expect.due("reader(" + frame + ", 2, -1)", x.reader(frame, 2, -1), -1);
        }
        Expect.due("reader(1, 2, 5)", x.reader(1, 2, 5), 1);
        Expect.due("reader(2, 2, 5)", x.reader(2, 2, 5), 1);
    }

    private static void readerThatIsNoNode() {
        Expect.sentence("3: -1 there is no FRAME or node");
        Counted x = new Counted();
        x.frame(5, 10, 0);
        int[] none = {0, 21, -1, 22, LOW, HIGH};
        for (int node : none) {
            Expect.due("reader(1, " + node + ", 5)", x.reader(1, node, 5), -1);
            Expect.due("reader(1, " + node + ", 10001)", x.reader(1, node, 10001), -1);
        }
        Expect.due("reader(1, 1, 5)", x.reader(1, 1, 5), 1);
        Expect.due("reader(1, 20, 5)", x.reader(1, 20, 5), 2);
    }

    private static void readerTimeouts() {
        Expect.sentence("3: -2 the TIME-OUT is not 0 .. 10000");
        Counted x = new Counted();
        x.frame(5, 10, 0);
        int[] none = {-1, 10001, LOW, HIGH, -10000, 65536};
        for (int timeout : none) {
            Expect.due("reader(1, 1, " + timeout + ")", x.reader(1, 1, timeout), -2);
            Expect.due("reader(1, 5, " + timeout + "), its SENDER", x.reader(1, 5, timeout), -2);
        }
        Expect.due("nobody reads it", x.nodes(1), "5");
        Expect.due("reader(1, 1, 0)", x.reader(1, 1, 0), 0);
        Expect.due("reader(1, 1, 1)", x.reader(1, 1, 1), 1);
        Expect.due("reader(1, 2, 10000)", x.reader(1, 2, 10000), 2);
        Expect.due("both", x.printed(), "frame 5 10 0 0 reads 1 1 reads 2 10000\n");
    }

    private static void readerThatSends() {
        Expect.sentence("3: -3 the node is its SENDER");
        Counted x = new Counted();
        x.frame(1, 10, 0);
        x.frame(20, 10, 0);
        int[] timeouts = {0, 1, 10000};
        for (int timeout : timeouts) {
            Expect.due("reader(1, 1, " + timeout + ")", x.reader(1, 1, timeout), -3);
            Expect.due("reader(2, 20, " + timeout + ")", x.reader(2, 20, timeout), -3);
        }
        Expect.due("none", x.printed(), "frame 1 10 0 0\nframe 20 10 0 0\n");
        Expect.due("the other one's SENDER", x.reader(1, 20, 5), 1);
        Expect.due("the other one's SENDER", x.reader(2, 1, 5), 1);
    }

    private static void gapAnswersOne() {
        Expect.sentence("9: A FRAME's GAP: 1.");
        Counted x = new Counted();
        x.frame(1, 10, 0);
        x.frame(2, 60, 0);
        Expect.due("gap(1, 7)", x.gap(1, 7), 1);
        Expect.due("gaps", x.printed(), "frame 1 10 0 7\nframe 2 60 0 0\n");
        Expect.due("gap(2, 30)", x.gap(2, 30), 1);
        Expect.due("gap(1, 0)", x.gap(1, 0), 1);
        Expect.due("gap(1, 0) again", x.gap(1, 0), 1);
        Expect.due("gaps then", x.printed(), "frame 1 10 0 0\nframe 2 60 0 30\n");
    }

    private static void gapOfNoFrame() {
        Expect.sentence("9: -1 there is none");
        Counted x = new Counted();
        Expect.due("gap(1, 0) without FRAMES", x.gap(1, 0), -1);
        x.frames(2, 1, 10, 0);
        int[] none = {0, 3, -1, 41, LOW, HIGH};
        for (int frame : none) {
            Expect.due("gap(" + frame + ", 0)", x.gap(frame, 0), -1);
            Expect.due("gap(" + frame + ", -1)", x.gap(frame, -1), -1);
        }
        Expect.due("gap(2, 0)", x.gap(2, 0), 1);
    }

    private static void gapBelowZero() {
        Expect.sentence("9: -2 ticks are below 0");
        Counted x = new Counted();
        x.frame(1, 10, 0);
        x.gap(1, 4);
        Expect.due("gap(1, -1)", x.gap(1, -1), -2);
        Expect.due("gap(1, LOW)", x.gap(1, LOW), -2);
        Expect.due("it stays", x.printed(), "frame 1 10 0 4\n");
        Expect.due("gap(1, 0)", x.gap(1, 0), 1);
    }

    private static void gapAboveThePeriod() {
        Expect.sentence("9: or more than its PERIOD");
        Counted x = new Counted();
        x.frame(1, 1, 0);
        x.frame(2, 10, 0);
        x.frame(3, 60, 0);
        int[] periods = {1, 10, 60};
        for (int i = 0; i < periods.length; i++) {
            Expect.due("a tick more than " + periods[i], x.gap(i + 1, periods[i] + 1), -2);
            Expect.due("as many as " + periods[i], x.gap(i + 1, periods[i]), 1);
            Expect.due("HIGH for " + periods[i], x.gap(i + 1, HIGH), -2);
        }
        Expect.due("gaps", x.printed(), "frame 1 1 0 1\nframe 2 10 0 10\nframe 3 60 0 60\n");
    }

    private static void touchedByNumbers() {
        Expect.sentence("15: The i-th (from 0) node that a change of a FRAME touches: its SENDER and those that READ it, by numbers");
        Counted x = new Counted();
        x.frame(10, 5, 5);
        x.frame(1, 5, 5);
        Expect.due("the SENDER alone", x.nodes(1), "10");
        int[] readers = {20, 1, 11, 9};
        for (int node : readers) {
            x.reader(1, node, 7);
        }
        Expect.due("with readers", x.nodes(1), "1 9 10 11 20");
        Expect.due("touched(1, 0)", x.touched(1, 0), 1);
        Expect.due("touched(1, 4)", x.touched(1, 4), 20);
        x.reader(1, 11, 0);
        Expect.due("without one of them", x.nodes(1), "1 9 10 20");
        Expect.due("another FRAME", x.nodes(2), "1");
    }

    private static void touchedByAllNodes() {
        Expect.sentence("15: its SENDER and those that READ it (all 20 nodes)");
        Counted x = new Counted();
        x.frame(13, 5, 5);
        for (int node = 1; node <= 20; node++) {
            x.reader(1, node, 1);
        }
        for (int i = 0; i < 20; i++) {
            Expect.due("touched(1, " + i + ")", x.touched(1, i), i + 1);
        }
        Expect.due("touched(1, 20)", x.touched(1, 20), 0);
    }

    private static void touchedNone() {
        Expect.sentence("15: 0 if there is none");
        Counted x = new Counted();
        x.frame(10, 5, 5);
        Expect.due("touched(1, 1)", x.touched(1, 1), 0);
        x.reader(1, 20, 1);
        int[] none = {2, 19, 20, 21, -1, -20, LOW, HIGH};
        for (int i : none) {
            Expect.due("touched(1, " + i + ")", x.touched(1, i), 0);
        }
    }

    private static void touchedOfNoFrame() {
        Expect.sentence("15: -1 there is no FRAME");
        Counted x = new Counted();
        Expect.due("touched(1, 0) without FRAMES", x.touched(1, 0), -1);
        x.frames(2, 10, 5, 5);
        int[] none = {0, 3, -1, 40, 41, LOW, HIGH};
        for (int frame : none) {
            Expect.due("touched(" + frame + ", 0)", x.touched(frame, 0), -1);
            Expect.due("touched(" + frame + ", -1)", x.touched(frame, -1), -1);
        }
        Expect.due("touched(2, 0)", x.touched(2, 0), 10);
    }
}
