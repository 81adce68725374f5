/** Terms: To READ a text. Promise 12 read. */
public final class ReadTest {
    public static void main(String[] args) {
        linesAsTheyAreWritten();
        spacesBetween();
        spacesBeforeAndBehind();
        signsThatAreNoSpaces();
        lastLineWithoutLineFeed();
        linesWithoutWords();
        linesThatAreNone();
        digits();
        numbersThatAreNone();
        senders();
        periods();
        ranks();
        gaps();
        nodes();
        timeouts();
        nodesThatSend();
        frameTooMany();
        nothingChanges();
        nothingIsLeftOfIt();
        toldTwice();
        framesOfTheText();
        offsetsAreZero();
        spansStay();
        emptyThen();
        howManyFrames();
        emptyText();
        numberOfTheLine();
        twoThousandLines();
        textCutAtTwoThousand();
        Expect.end();
    }

    private static void reads(String text, int want) {
        Expect.due("read() of <" + text + ">", new Counted().readText(text), want);
    }

    private static void readsAs(String text, String want) {
        Counted x = new Counted();
        int lines = (int) want.chars().filter(c -> c == '\n').count();
        Expect.due("read() of <" + text + ">", x.readText(text), lines);
        Expect.due("table of <" + text + ">", x.printed(), want);
    }

    private static void linesAsTheyAreWritten() {
        Expect.sentence("To READ a text: lines as they are written");
        Counted x = new Counted();
        x.frame(7, 30, 60);
        x.frame(8, 11, 1);
        x.gap(1, 2);
        x.reader(1, 3, 44);
        x.reader(1, 20, 10000);
        String written = x.printed();
        readsAs(written, written);
        Expect.due("its own", x.read(), 2);
        Expect.due("table", x.printed(), written);
    }

    private static void spacesBetween() {
        Expect.sentence("words with one space or more between");
        readsAs("frame 1 2 3 0 reads 2 4", "frame 1 2 3 0 reads 2 4\n");
        readsAs("frame  1   2  3    0  reads   2     4", "frame 1 2 3 0 reads 2 4\n");
        reads("frame1 2 3 0", -1);
        reads("frame 12 30", -1);
        reads("frame 1 2 3 0reads 2 4", -1);
        reads("frame 1 2 3 0 reads2 4", -1);
    }

    private static void spacesBeforeAndBehind() {
        Expect.sentence("(also before and behind them)");
        readsAs(" frame 1 2 3 0", "frame 1 2 3 0\n");
        readsAs("frame 1 2 3 0 ", "frame 1 2 3 0\n");
        readsAs("    frame 1 2 3 0 reads 2 4    \n   frame 4 5 6 5  \n  ", "frame 1 2 3 0 reads 2 4\nframe 4 5 6 5\n");
    }

    private static void signsThatAreNoSpaces() {
        Expect.sentence("words with one space or more between (no other sign)");
        String[] signs = {"\t", "\r", "\u000b", "\f", "\u00a0", "\u0001", ",", "\u0085"};
        for (String sign : signs) {
            reads("frame 1 2 3" + sign + "0", -1);
            reads("frame 1 2 3 0" + sign, -1);
            reads(sign + "frame 1 2 3 0", -1);
            reads("frame 1 2 3 0\n" + sign + "\n", -2);
        }
    }

    private static void lastLineWithoutLineFeed() {
        Expect.sentence("lines as they are written (the last one without a line feed)");
        readsAs("frame 1 2 3 0", "frame 1 2 3 0\n");
        readsAs("frame 1 2 3 0\nframe 4 5 6 0", "frame 1 2 3 0\nframe 4 5 6 0\n");
        reads("frame 1 2 3 0\nframe 4 5 6", -2);
    }

    private static void linesWithoutWords() {
        Expect.sentence("lines without words pass by");
        reads("\n", 0);
        reads(" ", 0);
        reads(" \n\n   \n", 0);
        readsAs("\n\n  \nframe 1 2 3 0\n\n \nframe 4 5 6 0\n\n", "frame 1 2 3 0\nframe 4 5 6 0\n");
    }

    private static void linesThatAreNone() {
        Expect.sentence("a line that is none ends it");
        String[] none = {"frame", "frame 1", "frame 1 2", "frame 1 2 3", "frame 1 2 3 0 1", "frame 1 2 3 0 reads",
            "frame 1 2 3 0 reads 2", "frame 1 2 3 0 reads 2 5 6", "frame 1 2 3 0 reads 2 5 reads", "frame 1 2 3 0 read 2 5",
            "frame 1 2 3 0 readss 2 5", "frame 1 2 3 0 2 5", "frames 1 2 3 0", "fram 1 2 3 0", "Frame 1 2 3 0", "FRAME 1 2 3 0",
            "1 2 3 0", "reads 2 5", "x", "frame frame 1 2 3 0", "frame 1 2 3 0 reads reads 2 5", "frame 1 2 3 reads 2 5",
            "framf 1 2 3 0", "xrame 1 2 3 0", "frame 1 2 3 0 readz 2 5", "frame 1 2 3 0 Reads 2 5", "reads 1 2 3 0",
            "\u00e6 1 2 3 0", "frame 1 2 3 0 frame 1 2 3 0", "frame 1 2 3 0 frame 2 5", "f", "frame 1 2 3 0 reads 2 5 x"};
        for (String line : none) {
            reads(line, -1);
            reads("frame 2 2 2 2\n" + line + "\n", -2);
        }
        reads("frame 1 2\n3 0", -1);
        reads("frame 1 2 3 0\nreads 2 5", -2);
    }

    private static void digits() {
        Expect.sentence("numbers that are none (they have 1 to 6 digits)");
        readsAs("frame 000001 000002 000003 000000 reads 000002 010000", "frame 1 2 3 0 reads 2 10000\n");
        readsAs("frame 01 02 03 00 reads 02 04", "frame 1 2 3 0 reads 2 4\n");
        reads("frame 0000001 2 3 0", -1);
        reads("frame 1 0000002 3 0", -1);
        reads("frame 1 2 0000003 0", -1);
        reads("frame 1 2 3 0000000", -1);
        reads("frame 1 2 3 0 reads 0000002 4", -1);
        reads("frame 1 2 3 0 reads 2 0000004", -1);
        reads("frame 1 2 3 0 reads 2 0010000", -1);
    }

    private static void numbersThatAreNone() {
        Expect.sentence("numbers that are none (other signs, and too many)");
        String[] none = {"-1", "+1", "-0", "1a", "a1", "a", "1.", "0x1", "1000000", "4294967297", "18446744073709551617",
            "1/", "1:", "/", ":", "\u00b9", "1\u00ff", "1\t", "\u00b1", "999999"};
        for (String number : none) {
            reads("frame " + number + " 2 3 0", -1);
            reads("frame 1 " + number + " 3 0", -1);
            reads("frame 1 2 " + number + " 0", -1);
            reads("frame 1 2 3 " + number, -1);
            reads("frame 9 2 3 1 reads " + number + " 5", -1);
            reads("frame 9 2 3 1 reads 1 " + number, -1);
        }
    }

    private static void senders() {
        Expect.sentence("a SENDER (node 1 .. 20) in a text");
        reads("frame 0 2 3 0", -1);
        reads("frame 1 2 3 0", 1);
        reads("frame 20 2 3 0", 1);
        reads("frame 21 2 3 0", -1);
    }

    private static void periods() {
        Expect.sentence("a PERIOD (1 .. 60 ticks) in a text");
        reads("frame 1 0 3 0", -1);
        reads("frame 1 1 3 0", 1);
        reads("frame 1 60 3 0", 1);
        reads("frame 1 61 3 0", -1);
    }

    private static void ranks() {
        Expect.sentence("a RANK (0 .. 99) in a text");
        reads("frame 1 2 0 0", 1);
        reads("frame 1 2 99 0", 1);
        reads("frame 1 2 100 0", -1);
    }

    private static void gaps() {
        Expect.sentence("a GAP (0 .. PERIOD) in a text");
        int[] periods = {1, 10, 60};
        for (int period : periods) {
            reads("frame 1 " + period + " 3 0", 1);
            reads("frame 1 " + period + " 3 " + period, 1);
            reads("frame 1 " + period + " 3 " + (period + 1), -1);
        }
    }

    private static void nodes() {
        Expect.sentence("a node (1 .. 20) that READS in a text");
        reads("frame 4 2 3 0 reads 0 5", -1);
        readsAs("frame 4 2 3 0 reads 1 5", "frame 4 2 3 0 reads 1 5\n");
        readsAs("frame 4 2 3 0 reads 20 5", "frame 4 2 3 0 reads 20 5\n");
        reads("frame 4 2 3 0 reads 21 5", -1);
        Counted x = new Counted();
        StringBuilder all = new StringBuilder("frame 4 2 3 0");
        for (int node = 20; node >= 1; node--) {
            all.append(node == 4 ? "" : " reads " + node + " 5");
        }
        Expect.due("all 19", x.readText(all.toString()), 1);
        Expect.due("how many do", x.reader(1, 1, 5), 19);
        reads(all + " reads 4 5", -1);
    }

    /** One of 0 is never written, since such a node does not READ: a line with it is not one as they are written. */
    private static void timeouts() {
        Expect.sentence("a TIME-OUT (1 .. 10000) in a text");
        reads("frame 4 2 3 0 reads 1 0", -1);
        readsAs("frame 4 2 3 0 reads 1 1", "frame 4 2 3 0 reads 1 1\n");
        readsAs("frame 4 2 3 0 reads 1 10000", "frame 4 2 3 0 reads 1 10000\n");
        reads("frame 4 2 3 0 reads 1 10001", -1);
        readsAs("frame 4 60 3 0 reads 1 59", "frame 4 60 3 0 reads 1 59\n");
    }

    private static void nodesThatSend() {
        Expect.sentence("a node that READS what it sends ends it");
        reads("frame 4 2 3 0 reads 4 5", -1);
        reads("\nframe 4 2 3 0 reads 5 5 reads 4 5", -2);
        reads("frame 4 2 3 0 reads 4 5 reads 5 5", -1);
        reads("frame 4 2 3 0\nframe 5 2 3 0 reads 4 5", 2);
        reads("frame 4 2 3 0\nframe 5 2 3 0 reads 5 5", -2);
    }

    private static void frameTooMany() {
        Expect.sentence("or a FRAME too many ends it");
        String forty = "frame 1 2 3 0\n".repeat(40);
        reads(forty, 40);
        reads(forty + "\n \n", 40);
        reads(forty + "frame 1 2 3 0", -41);
        reads("\n" + forty + "\nframe 1 2 3 0\nx", -43);
        Counted x = new Counted();
        x.frames(39, 9, 9, 9);
        Expect.due("those that there were do not count", x.readText("frame 1 2 3 0\nframe 4 5 6 0"), 2);
    }

    private static Counted spread() {
        Counted x = new Counted();
        x.frame(1, 2, 3);
        x.frame(2, 2, 3);
        x.reader(1, 9, 99);
        x.gap(2, 1);
        x.span(0, 5, 5);
        x.offset(3000);
        return x;
    }

    private static void nothingChanges() {
        Expect.sentence("ends it: nothing changes");
        String before = "frame 7 7 7 7 reads 8 8\nframe 7 7 7 7\nframe 7 7 7 7\n";
        String[] ends = {"x", "frame 0 7 7 7", "frame 7 7 7 8", "frame 7 7 7 7 reads 7 7", "frame 7 7 7 7 reads 8 0000007"};
        String want = spread().state();
        for (String end : ends) {
            Counted x = spread();
            Expect.due("read() with " + end, x.readText(before + end), -4);
            Expect.due("state behind " + end, x.state(), want);
        }
        Counted y = spread();
        Expect.due("read() with one too many", y.readText("frame 7 7 7 7\n".repeat(41)), -41);
        Expect.due("state", y.state(), want);
    }

    private static void nothingIsLeftOfIt() {
        Expect.sentence("nothing changes (nothing is left for the next text)");
        Counted x = spread();
        x.readText("frame 7 7 7 7 reads 8 8\nframe 7 7 7 7\nx");
        Expect.due("a right one", x.readText("frame 3 3 3 3"), 1);
        Expect.due("table", x.printed(), "frame 3 3 3 3\n");
        x.read();
        Expect.due("a wrong one", x.readText("frame 4 4 4 4 reads 5 5\nx"), -2);
        Expect.due("table", x.printed(), "frame 3 3 3 3\n");
        x.read();
        Expect.due("no more in a line than its own readers", x.readText("frame 4 4 4 4\nframe 5 5 5 5"), 2);
        Expect.due("table", x.printed(), "frame 4 4 4 4\nframe 5 5 5 5\n");
    }

    private static void toldTwice() {
        Expect.sentence("(Of a node that is told twice in a line the second one counts.)");
        readsAs("frame 4 2 3 0 reads 1 9 reads 2 8 reads 1 7", "frame 4 2 3 0 reads 1 7 reads 2 8\n");
        readsAs("frame 4 2 3 0 reads 1 7 reads 1 9", "frame 4 2 3 0 reads 1 9\n");
        readsAs("frame 4 2 3 0 reads 1 9 reads 1 8 reads 1 7", "frame 4 2 3 0 reads 1 7\n");
        readsAs("frame 4 2 3 0 reads 1 9\nframe 4 2 3 0 reads 1 8", "frame 4 2 3 0 reads 1 9\nframe 4 2 3 0 reads 1 8\n");
        Counted x = new Counted();
        x.readText("frame 4 2 3 0" + " reads 20 9".repeat(30));
        Expect.due("it is one reader", x.reader(1, 20, 9), 1);
    }

    private static void framesOfTheText() {
        Expect.sentence("Otherwise the FRAMES (with their GAPS and readers) are those of the text");
        Counted x = spread();
        Expect.due("fewer", x.readText("frame 8 9 10 1 reads 3 5"), 1);
        Expect.due("table", x.printed(), "frame 8 9 10 1 reads 3 5\n");
        Expect.due("at(2)", x.at(2), -1);
        Expect.due("touched", x.nodes(1), "3 8");
        x.read();
        Expect.due("more", x.readText("frame 1 2 3 0\nframe 4 5 6 0\nframe 7 8 9 8"), 3);
        Expect.due("table", x.printed(), "frame 1 2 3 0\nframe 4 5 6 0\nframe 7 8 9 8\n");
        Expect.due("one more", x.frame(1, 1, 1), 4);
    }

    private static void offsetsAreZero() {
        Expect.sentence("OFFSETS are 0");
        Counted x = spread();
        Expect.due("before", x.row(), "0 1");
        x.print();
        x.read();
        Expect.due("behind its own text", x.row(), "0 0");
        x.offset(3000);
        x.readText("frame 1 2 3 0\nframe 2 2 3 1\nframe 2 2 3 1");
        Expect.due("behind another", x.row(), "0 0 0");
        Expect.due("the PEAK as it is", x.offset(0), 3);
    }

    private static void spansStay() {
        Expect.sentence("SPANS stay");
        Counted x = spread();
        x.span(3, 2000, 2000);
        x.readText("frame 1 2 3 0\nframe 2 2 3 1\nframe 1 1 99 0");
        Expect.due("identifier(1)", x.identifier(1), 5);
        Expect.due("identifier(2)", x.identifier(2), -4);
        Expect.due("identifier(3)", x.identifier(3), 2000);
    }

    private static void emptyThen() {
        Expect.sentence("12: The text is READ, and empty then");
        Counted x = new Counted();
        x.readText("frame 1 2 3 0");
        Expect.due("letter(0) behind one that is READ", x.letter(0), -1);
        x.readText("frame 1 2 3 0\nx");
        Expect.due("letter(0) behind one that is not", x.letter(0), -1);
        x.sign('a');
        Expect.due("a new one", x.letters(), "a");
        x.print();
        x.read();
        Expect.due("letter(0) behind a written one", x.letter(0), -1);
    }

    private static void howManyFrames() {
        Expect.sentence("12: how many FRAMES there are");
        reads("frame 1 2 3 0", 1);
        reads("\n\nframe 1 2 3 0\n\nframe 1 2 3 0\n\n", 2);
        reads("frame 1 2 3 0\n".repeat(39), 39);
    }

    private static void emptyText() {
        Expect.sentence("12: how many FRAMES there are (of an empty text)");
        Counted x = spread();
        Expect.due("read()", x.read(), 0);
        Expect.due("at(1)", x.at(1), -1);
        Expect.due("print()", x.print(), 0);
        Expect.due("read() again", x.read(), 0);
        Expect.due("a new FRAME", x.frame(9, 9, 9), 1);
    }

    private static void numberOfTheLine() {
        Expect.sentence("12: or minus the number of the line (from 1 on) that ended it");
        reads("x", -1);
        reads("\nx", -2);
        reads("frame 1 2 3 0\nx", -2);
        reads(" \n\n  \nx\n", -4);
        reads("frame 1 2 3 0\n\nx\ny\nframe", -3);
        reads("x\nframe 1 2 3 0", -1);
    }

    private static void twoThousandLines() {
        Expect.sentence("12: the number of the line (of 2000)");
        reads("\n".repeat(1999) + "x", -2000);
        reads("\n".repeat(2000), 0);
    }

    private static void textCutAtTwoThousand() {
        Expect.sentence("11, 12: what comes behind 2000 is lost (and not READ)");
        String blank = "\n".repeat(2000 - "frame 1 9 3 1".length());
        reads(blank + "frame 1 9 3 1", 1);
        reads(blank + "frame 1 9 3 1x", 1);
        Counted x = new Counted();
        Expect.due("a second digit that is lost", x.readText(blank + "frame 1 9 3 19"), 1);
        Expect.due("print()", x.print(), "frame 1 9 3 1\n".length());
    }
}
