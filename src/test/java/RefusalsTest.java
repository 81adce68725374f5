/** Terms: REFUSALS, for all promises that have some. */
public final class RefusalsTest {
    private static final int LOW = Counted.LOW;
    private static final int HIGH = Counted.HIGH;

    public static void main(String[] args) {
        frameChangesNothing();
        readerChangesNothing();
        spanChangesNothing();
        gapChangesNothing();
        offsetChangesNothing();
        questionsChangeNothing();
        fullTableChangesNothing();
        firstThatFitsOfFrame();
        firstThatFitsOfReader();
        firstThatFitsOfSpan();
        firstThatFitsOfGap();
        Expect.end();
    }

    /** Something of everything: readers, a gap, spans, offsets that are exact, a typed text. */
    private static Counted table() {
        Counted x = new Counted();
        x.frame(1, 2, 3);
        x.frame(2, 2, 30);
        x.frame(3, 11, 99);
        x.reader(1, 9, 99);
        x.reader(2, 20, 1);
        x.gap(2, 1);
        x.span(0, 5, 5);
        x.span(3, 1900, 2000);
        x.offset(3000);
        x.type("frame 7 7 7 7");
        return x;
    }

    private static void same(String call, Counted x) {
        Expect.due("state behind " + call, x.state(), table().state());
    }

    private static void frameChangesNothing() {
        Expect.sentence("REFUSALS change nothing: frame");
        int[][] calls = {{0, 1, 0}, {21, 1, 0}, {1, 0, 0}, {1, 61, 0}, {1, 1, -1}, {1, 1, 100}};
        for (int[] c : calls) {
            Counted x = table();
            String call = "frame(" + c[0] + ", " + c[1] + ", " + c[2] + ")";
            Expect.due(call, x.frame(c[0], c[1], c[2]), -2);
            same(call, x);
        }
    }

    private static void readerChangesNothing() {
        Expect.sentence("REFUSALS change nothing: reader");
        int[][] calls = {{0, 5, 7, -1}, {4, 5, 7, -1}, {1, 0, 7, -1}, {1, 21, 7, -1}, {1, 21, 0, -1}, {1, 9, -1, -2},
            {1, 9, 10001, -2}, {1, 8, 10001, -2}, {1, 1, 7, -3}, {2, 2, 7, -3}};
        for (int[] c : calls) {
            Counted x = table();
            String call = "reader(" + c[0] + ", " + c[1] + ", " + c[2] + ")";
            Expect.due(call, x.reader(c[0], c[1], c[2]), c[3]);
            same(call, x);
        }
    }

    private static void spanChangesNothing() {
        Expect.sentence("REFUSALS change nothing: span");
        int[][] calls = {{-1, 0, 1, -1}, {4, 0, 1, -1}, {0, -1, 9, -2}, {3, 2000, 2048, -2}, {0, 9, 8, -2}, {0, 6, 512, -3},
            {3, 5, 5, -3}, {1, 0, 2047, -3}, {2, 1900, 1900, -3}};
        for (int[] c : calls) {
            Counted x = table();
            String call = "span(" + c[0] + ", " + c[1] + ", " + c[2] + ")";
            Expect.due(call, x.span(c[0], c[1], c[2]), c[3]);
            Expect.due("KIND 0 to 511 behind " + call, x.span(0, 5, 511), 507);
            Expect.due("KIND 0 again", x.span(0, 5, 5), 1);
            Expect.due("KIND 2 to 1900 behind " + call, x.span(2, 1024, 1900), -3);
            same(call, x);
        }
    }

    private static void gapChangesNothing() {
        Expect.sentence("REFUSALS change nothing: gap");
        int[][] calls = {{0, 1, -1}, {4, 1, -1}, {2, -1, -2}, {2, 3, -2}, {2, LOW, -2}, {2, HIGH, -2}};
        for (int[] c : calls) {
            Counted x = table();
            String call = "gap(" + c[0] + ", " + c[1] + ")";
            Expect.due(call, x.gap(c[0], c[1]), c[2]);
            same(call, x);
        }
    }

    private static void offsetChangesNothing() {
        Expect.sentence("REFUSALS change nothing: offset");
        long[] calls = {-1, 3001, Long.MIN_VALUE, Long.MAX_VALUE, 1L << 32};
        for (long steps : calls) {
            Counted x = table();
            Expect.due("offset(" + steps + ")", x.offset(steps), -2);
            same("offset(" + steps + ")", x);
        }
    }

    private static void questionsChangeNothing() {
        Expect.sentence("REFUSALS change nothing: identifier, at, letter, touched");
        int[] none = {0, 4, -1, LOW, HIGH};
        for (int frame : none) {
            Counted x = table();
            Expect.due("identifier(" + frame + ")", x.identifier(frame), -1);
            Expect.due("at(" + frame + ")", x.at(frame), -1);
            Expect.due("touched(" + frame + ", 0)", x.touched(frame, 0), -1);
            Expect.due("touched(1, -1)", x.touched(1, -1), 0);
            Expect.due("letter(-1)", x.letter(-1), -1);
            Expect.due("letter(13)", x.letter(13), -1);
            same("questions of " + frame, x);
        }
    }

    private static void fullTableChangesNothing() {
        Expect.sentence("REFUSALS change nothing: -4 no room");
        Counted x = new Counted();
        x.frames(39, 1, 1, 0);
        x.frame(2, 1, 0);
        x.reader(40, 9, 9);
        x.gap(40, 1);
        x.offset(3000);
        x.type("abc");
        Expect.due("frame(3, 60, 99)", x.frame(3, 60, 99), -4);
        Expect.due("exact()", x.exact(), true);
        Expect.due("text", x.letters(), "abc");
        Expect.due("the 40th one's nodes", x.nodes(40), "2 9");
        Expect.due("the 40th one's identifier", x.identifier(40), 39);
        Expect.due("at(41)", x.at(41), -1);
        Expect.due("print()", x.print(), 40 * "frame 1 1 0 0\n".length() + " reads 9 9".length());
        String last = "frame 2 1 0 1 reads 9 9\n";
        for (int i = 0; i < last.length(); i++) {
            Expect.due("letter " + i + " of the last line", x.letter(39 * "frame 1 1 0 0\n".length() + i), last.charAt(i));
        }
    }

    private static void firstThatFitsOfFrame() {
        Expect.sentence("the first that fits: frame, -2 before -4");
        Counted x = new Counted();
        x.frames(40, 1, 1, 0);
        Expect.due("a SENDER that is none", x.frame(21, 1, 0), -2);
        Expect.due("a PERIOD that is none", x.frame(1, 0, 0), -2);
        Expect.due("a RANK that is none", x.frame(1, 1, 100), -2);
        Expect.due("numbers that are", x.frame(1, 1, 99), -4);
    }

    private static void firstThatFitsOfReader() {
        Expect.sentence("the first that fits: reader, -1 before -2 before -3");
        Counted x = table();
        Expect.due("no FRAME, a TIME-OUT that is none", x.reader(4, 1, -1), -1);
        Expect.due("no node, a TIME-OUT that is none", x.reader(1, 21, 10001), -1);
        Expect.due("no FRAME, no node", x.reader(4, 21, 1), -1);
        Expect.due("its SENDER, a TIME-OUT that is none", x.reader(1, 1, 10001), -2);
        Expect.due("its SENDER", x.reader(1, 1, 10000), -3);
    }

    private static void firstThatFitsOfSpan() {
        Expect.sentence("the first that fits: span, -1 before -2 before -3");
        Counted x = table();
        Expect.due("no KIND, outside", x.span(4, -1, 0), -1);
        Expect.due("no KIND, another one's", x.span(4, 600, 600), -1);
        Expect.due("outside, over another one's", x.span(0, 600, 2048), -2);
        Expect.due("to less than from, in another one's", x.span(0, 601, 600), -2);
        Expect.due("another one's", x.span(0, 600, 601), -3);
    }

    private static void firstThatFitsOfGap() {
        Expect.sentence("the first that fits: gap, -1 before -2");
        Counted x = table();
        Expect.due("no FRAME, below 0", x.gap(4, -1), -1);
        Expect.due("no FRAME, more than any PERIOD", x.gap(0, 61), -1);
        Expect.due("more than its PERIOD", x.gap(3, 12), -2);
    }
}
