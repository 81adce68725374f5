/** Promises 11 to 14: signs, reading, printing and letters; and what reading does to 6 to 8. */
public final class TextTest {
    public static void main(String[] args) {
        signs();
        roomForSigns();
        letters();
        printed();
        printedTooLong();
        readWhatIsPrinted();
        readSpacesAndLines();
        readRanges();
        readBadLines();
        readBadNumbers();
        readReaders();
        readFortyFrames();
        readFailureChangesNothing();
        readReplaces();
        Expect.end();
    }

    private static void signs() {
        FrameTables x = new FrameTables();
        x.sign(0);
        Expect.due("0 is no sign", x.letter(0), -1);
        x.sign('a' << 24 | 'b' << 16 | 'c' << 8 | 'd');
        x.sign('e');
        x.sign('f' << 24);
        x.sign('g' << 16 | 'h');
        Expect.due("the highest first", Expect.letters(x), "abcdefgh");
        x.sign(-1);
        x.sign(0x80000001);
        Expect.due("letter(8)", x.letter(8), 255);
        Expect.due("letter(11)", x.letter(11), 255);
        Expect.due("letter(12)", x.letter(12), 128);
        Expect.due("letter(13)", x.letter(13), 1);
        Expect.due("letter(14)", x.letter(14), -1);
    }

    private static void roomForSigns() {
        FrameTables x = new FrameTables();
        x.sign('a');
        for (int i = 0; i < 499; i++) {
            x.sign('b' << 24 | 'b' << 16 | 'b' << 8 | 'b');
        }
        Expect.due("letter(1996)", x.letter(1996), 'b');
        Expect.due("letter(1997)", x.letter(1997), -1);
        x.sign('c' << 24 | 'd' << 16 | 'e' << 8 | 'f');
        x.sign('g');
        Expect.due("letter(1997)", x.letter(1997), 'c');
        Expect.due("letter(1999)", x.letter(1999), 'e');
        Expect.due("letter(2000)", x.letter(2000), -1);
        Expect.due("read()", x.read(), -1);
        Expect.due("empty then", x.letter(0), -1);
        x.sign('h');
        Expect.due("room again", x.letter(0), 'h');
        Expect.due("a lost sign does not hinder print()", x.print(), 0);
    }

    private static void letters() {
        FrameTables x = new FrameTables();
        Expect.due("letter(0)", x.letter(0), -1);
        x.sign('q');
        Expect.due("letter(0)", x.letter(0), 'q');
        Expect.due("letter(-1)", x.letter(-1), -1);
        Expect.due("letter(1)", x.letter(1), -1);
        Expect.due("letter(LOW)", x.letter(Integer.MIN_VALUE), -1);
        Expect.due("letter(HIGH)", x.letter(Integer.MAX_VALUE), -1);
        x.frame(1, 2, 3);
        Expect.due("still the typed one", Expect.letters(x), "q");
        Expect.due("print()", x.print(), 14);
        Expect.due("the written one instead", Expect.letters(x), "frame 1 2 3 0\n");
        x.sign('z');
        Expect.due("typed behind it", Expect.letters(x), "frame 1 2 3 0\nz");
    }

    private static void printed() {
        FrameTables x = new FrameTables();
        x.frame(20, 60, 99);
        x.frame(1, 1, 0);
        x.frame(9, 10, 50);
        x.gap(1, 60);
        x.gap(3, 10);
        x.reader(1, 19, 10000);
        x.reader(1, 1, 9);
        x.reader(1, 10, 100);
        x.reader(3, 20, 1000);
        x.offset(3000);
        String want = "frame 20 60 99 60 reads 1 9 reads 10 100 reads 19 10000\n"
                + "frame 1 1 0 0\nframe 9 10 50 10 reads 20 1000\n";
        Expect.due("print()", x.print(), want.length());
        Expect.due("text", Expect.letters(x), want);
        Expect.due("print() again", x.print(), want.length());
        Expect.due("text again", Expect.letters(x), want);
    }

    private static void printedTooLong() {
        FrameTables x = new FrameTables();
        int signs = 0;
        for (int i = 1; i <= 40; i++) {
            x.frame(10, 10, 10);
            signs += "frame 10 10 10 0\n".length();
        }
        int[] nodes = {11, 12, 13};
        for (int node : nodes) {
            for (int i = 1; i <= 40 && signs + 15 <= 2000; i++) {
                x.reader(i, node, 10000);
                signs += 15;
            }
        }
        Expect.due("below 2000", x.print(), signs);
        int more = 2000 - signs;
        for (int i = 1; i <= more; i++) {
            x.gap(i, 10);
        }
        Expect.due("2000", x.print(), 2000);
        Expect.due("letter(1999)", x.letter(1999), '\n');
        x.gap(more + 1, 10);
        Expect.due("2001", x.print(), -4);
        Expect.due("empty then", x.letter(0), -1);
        x.gap(more + 1, 9);
        Expect.due("2000 again", x.print(), 2000);
        Expect.due("read()", x.read(), 40);
        Expect.due("2000 of what was read", x.print(), 2000);
    }

    private static void readWhatIsPrinted() {
        FrameTables x = new FrameTables();
        x.frame(7, 30, 60);
        x.reader(1, 3, 44);
        x.gap(1, 2);
        x.frame(8, 11, 1);
        x.print();
        String written = Expect.letters(x);
        x.reader(1, 3, 0);
        x.gap(1, 0);
        x.frame(9, 9, 9);
        x.print();
        Expect.due("changed since", x.at(3), 0);
        FrameTables y = new FrameTables();
        Expect.due("read()", Expect.readText(y, written), 2);
        Expect.due("print()", y.print(), written.length());
        Expect.due("text", Expect.letters(y), written);
    }

    private static void readSpacesAndLines() {
        FrameTables x = new FrameTables();
        Expect.due("no text", Expect.readText(x, ""), 0);
        Expect.due("spaces and line feeds", Expect.readText(x, " \n\n   \n"), 0);
        Expect.due("no line feed behind", Expect.readText(x, "frame 1 2 3 0"), 1);
        Expect.due("spaces", Expect.readText(x, "   frame   1  2 3    0   reads  2     4   \n\n  \nframe 2 2 2 2  "), 2);
        x.print();
        Expect.due("text", Expect.letters(x), "frame 1 2 3 0 reads 2 4\nframe 2 2 2 2\n");
        x.read();
        Expect.due("empty lines count", Expect.readText(x, "\n\n \nframe"), -4);
        Expect.due("a tab is no space", Expect.readText(x, "frame 1 2 3\t0"), -1);
        Expect.due("a carriage return is none", Expect.readText(x, "frame 1 2 3 0\r\n"), -1);
        Expect.due("a frame over two lines", Expect.readText(x, "frame 1 2\n3 0"), -1);
        Expect.due("two frames in one line", Expect.readText(x, "frame 1 2 3 0 frame 1 2 3 0"), -1);
        Expect.due("the first wrong line", Expect.readText(x, "frame 1 2 3 0\nx\ny\n"), -2);
    }

    private static void readRanges() {
        FrameTables x = new FrameTables();
        String[] right = {"1 1 0 0", "20 60 99 60", "1 1 0 1", "1 10 30 10", "1 60 24 0"};
        for (String numbers : right) {
            Expect.due(numbers, Expect.readText(x, "frame " + numbers), 1);
        }
        String[] wrong = {"0 1 0 0", "21 1 0 0", "1 0 0 0", "1 61 0 0", "1 1 100 0", "1 1 0 2", "1 10 30 11",
            "20 60 99 61", "999999 1 1 0", "1 999999 1 0", "1 1 999999 0", "1 1 1 999999"};
        for (String numbers : wrong) {
            Expect.due(numbers, Expect.readText(x, "frame " + numbers), -1);
        }
    }

    private static void readBadLines() {
        FrameTables x = new FrameTables();
        String[] wrong = {"frame", "frame 1", "frame 1 2", "frame 1 2 3", "frame 1 2 3 0 1", "frame 1 2 3 0 reads",
            "frame 1 2 3 0 reads 2", "frame 1 2 3 0 reads 2 5 6", "frame 1 2 3 0 reads 2 5 reads", "frame 1 2 3 0 read 2 5",
            "frame 1 2 3 0 readss 2 5", "frame 1 2 3 0 2 5", "frames 1 2 3 0", "fram 1 2 3 0", "Frame 1 2 3 0", "1 2 3 0",
            "reads 2 5", "frame1 2 3 0", "x", "frame frame 1 2 3 0", "frame 1 2 3 0 reads reads 2 5", "frame 1 2 reads 2 5",
            "frame 1 2 3 0 reads2 5", "framf 1 2 3 0", "\u00e6 1 2 3 0"};
        for (String line : wrong) {
            Expect.due(line, Expect.readText(x, line + "\n"), -1);
            Expect.due(line + ", second", Expect.readText(x, "frame 2 2 2 2\n" + line), -2);
        }
    }

    private static void readBadNumbers() {
        FrameTables x = new FrameTables();
        String[] wrong = {"-1", "+1", "1a", "a1", "a", "1.", "0x1", "0000001", "1000000", "4294967297", "18446744073709551617",
            "1/", "1:", "/", ":", "\u00b9", "1\u00ff"};
        for (String number : wrong) {
            Expect.due("sender " + number, Expect.readText(x, "frame " + number + " 2 3 0"), -1);
            Expect.due("gap " + number, Expect.readText(x, "frame 1 2 3 " + number), -1);
            Expect.due("node " + number, Expect.readText(x, "frame 9 2 3 1 reads " + number + " 5"), -1);
            Expect.due("time-out " + number, Expect.readText(x, "frame 9 2 3 1 reads 1 " + number), -1);
        }
        Expect.due("six digits", Expect.readText(x, "frame 000001 000002 000003 000000 reads 000002 010000"), 1);
        x.print();
        Expect.due("text", Expect.letters(x), "frame 1 2 3 0 reads 2 10000\n");
    }

    private static void readReaders() {
        FrameTables x = new FrameTables();
        Expect.due("its sender", Expect.readText(x, "frame 4 2 3 0 reads 4 5"), -1);
        Expect.due("its sender, later", Expect.readText(x, "\nframe 4 2 3 0 reads 5 5 reads 4 5"), -2);
        Expect.due("node 0", Expect.readText(x, "frame 4 2 3 0 reads 0 5"), -1);
        Expect.due("node 21", Expect.readText(x, "frame 4 2 3 0 reads 21 5"), -1);
        Expect.due("time-out 0", Expect.readText(x, "frame 4 2 3 0 reads 1 0"), -1);
        Expect.due("time-out 10001", Expect.readText(x, "frame 4 2 3 0 reads 1 10001"), -1);
        Expect.due("time-outs 1 and 10000", Expect.readText(x, "frame 4 2 3 0 reads 20 1 reads 1 10000"), 1);
        x.print();
        Expect.due("by nodes", Expect.letters(x), "frame 4 2 3 0 reads 1 10000 reads 20 1\n");
        x.read();
        Expect.due("twice", Expect.readText(x, "frame 4 2 3 0 reads 1 9 reads 2 8 reads 1 7"), 1);
        Expect.due("one that does not read", x.reader(1, 3, 0), 2);
        x.print();
        Expect.due("the second counts", Expect.letters(x), "frame 4 2 3 0 reads 1 7 reads 2 8\n");
        x.read();
        Expect.due("two frames", Expect.readText(x, "frame 5 2 3 0\nframe 6 2 3 0 reads 5 5"), 2);
        Expect.due("the first has no reader", x.touched(1, 1), 0);
        Expect.due("the second has one", x.touched(2, 0), 5);
    }

    private static void readFortyFrames() {
        FrameTables x = new FrameTables();
        String forty = "frame 1 2 3 0\n".repeat(40);
        Expect.due("40", Expect.readText(x, forty), 40);
        Expect.due("41", Expect.readText(x, "\n" + forty + "\nframe 1 2 3 0"), -43);
        Expect.due("still 40", x.at(40), 0);
        Expect.due("a 41st that is called", x.frame(1, 2, 3), -4);
        Expect.due("40 of them again", Expect.readText(x, forty + "\n\n"), 40);
    }

    private static void readFailureChangesNothing() {
        FrameTables x = new FrameTables();
        x.frame(1, 2, 3);
        x.frame(2, 2, 3);
        x.reader(1, 9, 99);
        x.gap(2, 1);
        x.span(0, 5, 6);
        x.offset(3000);
        String text = "frame 7 7 7 7 reads 8 8\nframe 7 7 7 7\nframe 7 7 7 7\n";
        Expect.due("wrong text", Expect.readText(x, text + "frame 0 0 0 0"), -4);
        Expect.due("empty then", x.letter(0), -1);
        Expect.due("at(2)", x.at(2), 1);
        Expect.due("at(3)", x.at(3), -1);
        Expect.due("exact()", x.exact(), true);
        Expect.due("identifier(2)", x.identifier(2), 6);
        x.print();
        Expect.due("text", Expect.letters(x), "frame 1 2 3 0 reads 9 99\nframe 2 2 3 1\n");
        x.read();
        Expect.due("after a wrong one a right one", Expect.readText(x, "frame 3 3 3 3"), 1);
        x.print();
        Expect.due("nothing is left of the wrong one", Expect.letters(x), "frame 3 3 3 3\n");
        Expect.due("after a right one a wrong one", Expect.readText(x, "frame 4 4 4 4\nx"), -3);
        x.print();
        Expect.due("the right one stays", Expect.letters(x), "frame 3 3 3 3\n");
    }

    private static void readReplaces() {
        FrameTables x = new FrameTables();
        x.frame(1, 2, 3);
        x.frame(2, 2, 3);
        x.frame(3, 2, 3);
        x.reader(1, 9, 99);
        x.gap(1, 2);
        x.span(0, 5, 6);
        x.offset(3000);
        Expect.due("at(2)", x.at(2), 0);
        Expect.due("at(3)", x.at(3), 1);
        Expect.due("exact()", x.exact(), true);
        Expect.due("read()", Expect.readText(x, "frame 4 2 3 0\nframe 5 2 3 0\nframe 6 2 3 1"), 3);
        Expect.due("empty then", x.letter(0), -1);
        Expect.due("offsets are 0", x.at(3), 0);
        Expect.due("exact()", x.exact(), false);
        Expect.due("spans stay", x.identifier(1), 5);
        Expect.due("spans stay", x.identifier(3), -4);
        Expect.due("new sender", x.touched(1, 0), 4);
        Expect.due("no old reader", x.touched(1, 1), 0);
        x.print();
        Expect.due("text", Expect.letters(x), "frame 4 2 3 0\nframe 5 2 3 0\nframe 6 2 3 1\n");
        x.print();
        x.offset(3000);
        Expect.due("its own text again", x.read(), 3);
        Expect.due("offsets are 0 again", x.at(3), 0);
        x.offset(3000);
        Expect.due("an empty text has no frames", x.read(), 0);
        Expect.due("at(1)", x.at(1), -1);
        Expect.due("exact()", x.exact(), false);
        Expect.due("a new frame", x.frame(9, 9, 9), 1);
        Expect.due("has no old reader", x.touched(1, 1), 0);
        x.print();
        Expect.due("has no old gap", Expect.letters(x), "frame 9 9 9 0\n");
    }
}
