/** Terms: THE TEXT. Promises 11 sign, 13 print, 14 letter. */
public final class TextTest {
    private static final int LOW = Counted.LOW;
    private static final int HIGH = Counted.HIGH;
    private static final int FOUR = 'b' << 24 | 'b' << 16 | 'b' << 8 | 'b';

    public static void main(String[] args) {
        linesByNumbers();
        readersByNodes();
        numbersOfEachLength();
        textOfNoFrames();
        highestOctetFirst();
        octetsAbove127();
        zerosPassedOver();
        moreForTheText();
        twoThousandSigns();
        lostInTheMidst();
        lostBehindZeros();
        printInsteadOfTheOther();
        printHowManySigns();
        printJustTwoThousand();
        printTooLong();
        printBehindLostSigns();
        letterOfTyped();
        letterOfWritten();
        letterThatIsNone();
        Expect.end();
    }

    private static void linesByNumbers() {
        Expect.sentence("THE TEXT has a line for each FRAME, by numbers: frame, SENDER, PERIOD, RANK, GAP");
        Counted x = new Counted();
        x.frame(20, 60, 99);
        x.frame(1, 2, 3);
        x.frame(9, 11, 50);
        x.gap(1, 60);
        x.gap(2, 1);
        x.offset(3000);
        x.span(0, 7, 7);
        Expect.due("text", x.printed(), "frame 20 60 99 60\nframe 1 2 3 1\nframe 9 11 50 0\n");
    }

    private static void readersByNodes() {
        Expect.sentence("and for each reader by nodes reads, node, TIME-OUT");
        Counted x = new Counted();
        x.frame(10, 5, 0);
        x.frame(11, 5, 0);
        int[] nodes = {20, 2, 9, 11, 1};
        for (int node : nodes) {
            x.reader(1, node, 100 * node);
        }
        x.reader(1, 9, 0);
        Expect.due("text", x.printed(),
                "frame 10 5 0 0 reads 1 100 reads 2 200 reads 11 1100 reads 20 2000\nframe 11 5 0 0\n");
    }

    private static void numbersOfEachLength() {
        Expect.sentence("words with a space between, a line feed behind each line");
        int[] timeouts = {1, 9, 10, 99, 100, 999, 1000, 9999, 10000};
        for (int timeout : timeouts) {
            Counted x = new Counted();
            x.frame(1, 1, 0);
            x.reader(1, 2, timeout);
            Expect.due("text", x.printed(), "frame 1 1 0 0 reads 2 " + timeout + "\n");
        }
    }

    private static void textOfNoFrames() {
        Expect.sentence("THE TEXT has a line for each FRAME (there is none)");
        Counted x = new Counted();
        x.type("frame");
        Expect.due("print()", x.print(), 0);
        Expect.due("letter(0)", x.letter(0), -1);
    }

    private static void highestOctetFirst() {
        Expect.sentence("11: Four signs more for the text, the highest octet first");
        Counted x = new Counted();
        x.sign('a' << 24 | 'b' << 16 | 'c' << 8 | 'd');
        x.sign(0x01020304);
        Expect.due("text", x.letters(), "abcd\u0001\u0002\u0003\u0004");
    }

    private static void octetsAbove127() {
        Expect.sentence("11: the highest octet (of a number below 0)");
        Counted x = new Counted();
        x.sign(-1);
        x.sign(LOW);
        x.sign(0x80FF7F80);
        Expect.due("text", x.letters(), "\u00ff\u00ff\u00ff\u00ff\u0080\u0080\u00ff\u007f\u0080");
    }

    private static void zerosPassedOver() {
        Expect.sentence("11: those that are 0 are passed over");
        Counted x = new Counted();
        x.sign(0);
        Expect.due("four of them", x.letter(0), -1);
        for (int kept = 1; kept <= 15; kept++) {
            Counted y = new Counted();
            StringBuilder want = new StringBuilder();
            int four = 0;
            for (int k = 0; k < 4; k++) {
                boolean isKept = (kept >> k & 1) == 1;
                four = four << 8 | (isKept ? 'e' + k : 0);
                want.append(isKept ? Character.toString('e' + k) : "");
            }
            y.sign(four);
            Expect.due("sign(" + Integer.toHexString(four) + ")", y.letters(), want.toString());
        }
    }

    private static void moreForTheText() {
        Expect.sentence("11: signs more for the text (also for a written one)");
        Counted x = new Counted();
        x.frame(1, 2, 3);
        x.print();
        x.type("frame 4 5 6 0");
        Expect.due("text", x.letters(), "frame 1 2 3 0\nframe 4 5 6 0");
        Expect.due("read()", x.read(), 2);
    }

    private static void twoThousandSigns() {
        Expect.sentence("11: and what comes behind 2000 is lost");
        Counted x = new Counted();
        for (int i = 0; i < 500; i++) {
            x.sign(FOUR);
        }
        Expect.due("letter(1999)", x.letter(1999), 'b');
        Expect.due("letter(2000)", x.letter(2000), -1);
        x.sign('c');
        Expect.due("letter(1999)", x.letter(1999), 'b');
        Expect.due("letter(2000)", x.letter(2000), -1);
        Expect.due("letter(0)", x.letter(0), 'b');
        x.read();
        x.sign('c');
        Expect.due("room again", x.letters(), "c");
    }

    private static void lostInTheMidst() {
        Expect.sentence("11: what comes behind 2000 is lost (in the midst of four)");
        Counted x = new Counted();
        x.sign('a');
        for (int i = 0; i < 499; i++) {
            x.sign(FOUR);
        }
        Expect.due("letter(1997)", x.letter(1997), -1);
        x.sign('c' << 24 | 'd' << 16 | 'e' << 8 | 'f');
        x.sign('g');
        Expect.due("letter(1997)", x.letter(1997), 'c');
        Expect.due("letter(1999)", x.letter(1999), 'e');
        Expect.due("letter(2000)", x.letter(2000), -1);
        Expect.due("letter(0)", x.letter(0), 'a');
    }

    private static void lostBehindZeros() {
        Expect.sentence("11: those that are 0 are passed over (they are none of the 2000)");
        Counted x = new Counted();
        x.sign('a' << 24 | 'a' << 16 | 'a');
        for (int i = 0; i < 499; i++) {
            x.sign(FOUR);
        }
        Expect.due("letter(1998)", x.letter(1998), 'b');
        x.sign(0);
        x.sign('c' << 16 | 'd' << 8);
        Expect.due("letter(1999)", x.letter(1999), 'c');
        Expect.due("letter(2000)", x.letter(2000), -1);
    }

    private static void printInsteadOfTheOther() {
        Expect.sentence("13: THE TEXT of the table is written instead of the one there was");
        Counted x = new Counted();
        x.frame(1, 2, 3);
        x.type("a text that is longer than the one that is written");
        Expect.due("a typed one", x.printed(), "frame 1 2 3 0\n");
        x.gap(1, 2);
        Expect.due("a written one", x.printed(), "frame 1 2 3 2\n");
        x.sign('z');
        Expect.due("both", x.printed(), "frame 1 2 3 2\n");
        x.frame(4, 5, 6);
        Expect.due("it does not change the FRAMES", x.printed(), "frame 1 2 3 2\nframe 4 5 6 0\n");
    }

    private static void printHowManySigns() {
        Expect.sentence("13: how many signs it has");
        Counted x = new Counted();
        Expect.due("no FRAMES", x.print(), 0);
        x.frame(1, 2, 3);
        Expect.due("one", x.print(), 14);
        x.frame(20, 60, 99);
        Expect.due("two", x.print(), 14 + 17);
        x.reader(2, 1, 10000);
        Expect.due("a reader", x.print(), 14 + 17 + 14);
        Expect.due("once more", x.print(), 14 + 17 + 14);
    }

    /** A table whose text has just so many signs, 2000 or 2001: 40 lines of 17, 87 readers of 15, GAPS of two digits. */
    private static Counted withSigns(int signs) {
        Counted x = new Counted();
        x.frames(40, 10, 10, 10);
        for (int i = 0; i < 87; i++) {
            x.reader(1 + i % 40, 11 + i / 40, 10000);
        }
        for (int i = 1; i <= signs - 40 * 17 - 87 * 15; i++) {
            x.gap(i, 10);
        }
        return x;
    }

    private static void printJustTwoThousand() {
        Expect.sentence("13: -4 it would have more than 2000 (2000 are not)");
        Counted x = withSigns(2000);
        Expect.due("print()", x.print(), 2000);
        Expect.due("letter(0)", x.letter(0), 'f');
        Expect.due("letter(1999)", x.letter(1999), '\n');
        Expect.due("letter(2000)", x.letter(2000), -1);
        x.sign('z');
        Expect.due("letter(2000) behind one more", x.letter(2000), -1);
        Expect.due("read()", x.read(), 40);
        Expect.due("print() of what was READ", x.print(), 2000);
    }

    private static void printTooLong() {
        Expect.sentence("13: -4 it would have more than 2000 (then it is empty)");
        Counted x = withSigns(2001);
        x.type("abc");
        Expect.due("print()", x.print(), -4);
        Expect.due("letter(0)", x.letter(0), -1);
        Expect.due("print() again", x.print(), -4);
        x.sign('z');
        Expect.due("a text behind it", x.letters(), "z");
        Expect.due("the FRAMES stay", x.at(40), 0);
        Expect.due("the readers stay", x.nodes(7), "10 11 12 13");
        x.gap(1, 9);
        Expect.due("one sign less", x.print(), 2000);
        Counted longest = new Counted();
        longest.frames(40, 20, 60, 99);
        for (int i = 0; i < 400; i++) {
            longest.reader(1 + i % 40, 10 + i / 40, 10000);
        }
        Expect.due("far too long", longest.print(), -4);
        Expect.due("letter(0)", longest.letter(0), -1);
    }

    private static void printBehindLostSigns() {
        Expect.sentence("13: it would have more than 2000 (signs that were lost before do not count)");
        Counted x = new Counted();
        x.frame(1, 2, 3);
        for (int i = 0; i < 501; i++) {
            x.sign(FOUR);
        }
        Expect.due("print()", x.print(), 14);
        Expect.due("letter(14)", x.letter(14), -1);
    }

    private static void letterOfTyped() {
        Expect.sentence("14: Sign i of the text that is there (typed");
        Counted x = new Counted();
        x.type("qr");
        Expect.due("letter(0)", x.letter(0), 'q');
        Expect.due("letter(1)", x.letter(1), 'r');
        Expect.due("letter(0) again", x.letter(0), 'q');
        x.frame(1, 2, 3);
        Expect.due("behind other calls", x.letters(), "qr");
    }

    private static void letterOfWritten() {
        Expect.sentence("14: or written)");
        Counted x = new Counted();
        x.frame(1, 2, 3);
        x.print();
        Expect.due("letter(0)", x.letter(0), 'f');
        Expect.due("letter(5)", x.letter(5), ' ');
        Expect.due("letter(13)", x.letter(13), '\n');
        Expect.due("letter(14)", x.letter(14), -1);
    }

    private static void letterThatIsNone() {
        Expect.sentence("14: -1 there is none");
        Counted x = new Counted();
        Expect.due("letter(0) of an empty text", x.letter(0), -1);
        x.type("qr");
        int[] none = {2, 3, -1, -2, 1999, 2000, LOW, HIGH};
        for (int i : none) {
            Expect.due("letter(" + i + ")", x.letter(i), -1);
        }
        x.read();
        Expect.due("letter(0) behind read()", x.letter(0), -1);
    }
}
