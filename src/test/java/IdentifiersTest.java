/** Terms: KIND, SPAN, IDENTIFIERS. Promises 4 identifier, 5 span. */
public final class IdentifiersTest {
    private static final int LOW = Counted.LOW;
    private static final int HIGH = Counted.HIGH;

    public static void main(String[] args) {
        kinds();
        firstSpansBegin();
        firstSpansEnd();
        byRank();
        ofOneRankByNumbers();
        leastThatNoneBeforeHas();
        thereIsNone();
        identifierOfNoFrame();
        spanFromNowOn();
        spanHowMany();
        spanOfNoKind();
        spanFrom();
        spanTo();
        spanToLessThanFrom();
        spanThatMeetsAnother();
        spanThatMeetsItself();
        Expect.end();
    }

    private static void kinds() {
        Expect.sentence("its KIND is RANK / 25 (0 .. 3)");
        for (int rank = 0; rank <= 99; rank++) {
            Counted x = new Counted();
            x.frame(1, 1, rank);
            Expect.due("identifier of RANK " + rank, x.identifier(1), rank / 25 * 512);
        }
    }

    private static void firstSpansBegin() {
        Expect.sentence("A KIND has a SPAN of identifiers, at first KIND times 512");
        Counted x = new Counted();
        for (int kind = 0; kind <= 3; kind++) {
            x.frame(1, 1, 25 * kind);
            Expect.due("the first of KIND " + kind, x.identifier(kind + 1), 512 * kind);
        }
        for (int kind = 1; kind <= 3; kind++) {
            Expect.due("KIND " + (kind - 1) + " up to it", x.span(kind - 1, 512 * kind - 1, 512 * kind), -3);
            Expect.due("KIND " + (kind - 1) + " below it", x.span(kind - 1, 512 * kind - 1, 512 * kind - 1), 1);
        }
        x.span(0, 1, 1);
        Expect.due("0 was of KIND 0", x.span(1, 0, 0), 1);
    }

    private static void firstSpansEnd() {
        Expect.sentence("KIND times 512 and 511 more");
        for (int kind = 0; kind <= 3; kind++) {
            Counted x = new Counted();
            int last = 512 * kind + 511;
            int other = kind == 3 ? 0 : kind + 1;
            Expect.due("the last of KIND " + kind, x.span(other, last, last), -3);
            if (kind < 3) {
                Expect.due("behind it", x.span(other, last + 1, last + 1), 1);
            }
            x.span(kind, last - 1, last - 1);
            Expect.due("free now", x.span(other, last, last), 1);
        }
    }

    private static void byRank() {
        Expect.sentence("FRAMES by RANK, the least first");
        Counted x = new Counted();
        int[] ranks = {24, 0, 23, 1, 49, 25, 74, 50, 99, 75, 12};
        int[] want = {4, 0, 3, 1, 513, 512, 1025, 1024, 1537, 1536, 2};
        for (int rank : ranks) {
            x.frame(1, 1, rank);
        }
        for (int i = 0; i < want.length; i++) {
            Expect.due("identifier(" + (i + 1) + ")", x.identifier(i + 1), want[i]);
        }
    }

    private static void ofOneRankByNumbers() {
        Expect.sentence("of one RANK by numbers");
        Counted x = new Counted();
        x.frames(40, 1, 1, 99);
        for (int i = 1; i <= 40; i++) {
            Expect.due("identifier(" + i + ")", x.identifier(i), 1535 + i);
        }
    }

    private static void leastThatNoneBeforeHas() {
        Expect.sentence("each has the least identifier of its KIND's SPAN that none before it has");
        Counted x = new Counted();
        x.span(0, 100, 200);
        x.frame(1, 1, 9);
        Expect.due("one alone", x.identifier(1), 100);
        x.frame(1, 1, 9);
        Expect.due("the second", x.identifier(2), 101);
        x.frame(1, 1, 8);
        Expect.due("a less RANK goes before", x.identifier(3), 100);
        Expect.due("the first one then", x.identifier(1), 101);
        Expect.due("the second one then", x.identifier(2), 102);
        x.frame(1, 1, 25);
        Expect.due("another KIND's", x.identifier(4), 512);
        x.span(1, 99, 99);
        Expect.due("another KIND's before it", x.identifier(4), 99);
        Expect.due("takes none of it", x.identifier(3), 100);
    }

    private static void thereIsNone() {
        Expect.sentence("if there is none, it has none. 4: -4 it has none");
        Counted x = new Counted();
        x.frame(1, 1, 3);
        x.frames(2, 1, 1, 2);
        x.frame(1, 1, 90);
        x.span(0, 100, 101);
        Expect.due("first by RANK", x.identifier(2), 100);
        Expect.due("second by number", x.identifier(3), 101);
        Expect.due("last by RANK", x.identifier(1), -4);
        Expect.due("another KIND's", x.identifier(4), 1536);
        x.span(0, 100, 102);
        Expect.due("room for one more", x.identifier(1), 102);
        x.span(0, 511, 511);
        Expect.due("first of one", x.identifier(2), 511);
        Expect.due("second of one", x.identifier(3), -4);
        x.span(3, 2047, 2047);
        Expect.due("the greatest", x.identifier(4), 2047);
        x.frame(1, 1, 99);
        Expect.due("none behind the greatest", x.identifier(5), -4);
    }

    private static void identifierOfNoFrame() {
        Expect.sentence("4: -1 there is no FRAME");
        Counted x = new Counted();
        Expect.due("identifier(1) without FRAMES", x.identifier(1), -1);
        x.frames(2, 1, 1, 1);
        int[] none = {0, 3, -1, 40, 41, LOW, HIGH};
        for (int frame : none) {
            Expect.due("identifier(" + frame + ")", x.identifier(frame), -1);
        }
        Expect.due("identifier(2)", x.identifier(2), 1);
    }

    private static void spanFromNowOn() {
        Expect.sentence("5: A KIND's SPAN from now on");
        Counted x = new Counted();
        for (int kind = 0; kind <= 3; kind++) {
            x.frame(1, 1, 25 * kind);
            x.span(kind, 512 * kind + 7, 512 * kind + 8);
            Expect.due("KIND " + kind, x.identifier(kind + 1), 512 * kind + 7);
        }
        x.span(0, 0, 6);
        Expect.due("KIND 0 again", x.identifier(1), 0);
        Expect.due("KIND 1 still", x.identifier(2), 519);
    }

    private static void spanHowMany() {
        Expect.sentence("5: how many identifiers it has");
        Counted x = new Counted();
        Expect.due("one", x.span(0, 5, 5), 1);
        Expect.due("two", x.span(0, 5, 6), 2);
        Expect.due("512", x.span(0, 0, 511), 512);
        x.span(0, 0, 0);
        x.span(1, 1, 1);
        x.span(2, 2, 2);
        Expect.due("as many as there can be", x.span(3, 3, 2047), 2045);
    }

    private static void spanOfNoKind() {
        Expect.sentence("5: -1 there is no KIND");
        Counted x = new Counted();
        int[] none = {-1, 4, LOW, HIGH, 256};
        for (int kind : none) {
            Expect.due("span(" + kind + ", 0, 1)", x.span(kind, 0, 1), -1);
            Expect.due("span(" + kind + ", 5, 4)", x.span(kind, 5, 4), -1);
            Expect.due("span(" + kind + ", -1, 2048)", x.span(kind, -1, 2048), -1);
        }
        Expect.due("span(0, ..)", x.span(0, 0, 1), 2);
        Expect.due("span(3, ..)", x.span(3, 2046, 2047), 2);
    }

    private static void spanFrom() {
        Expect.sentence("5: -2 from is not 0 .. 2047");
        Counted x = new Counted();
        Expect.due("from -1", x.span(0, -1, 1), -2);
        Expect.due("from LOW", x.span(0, LOW, 1), -2);
        Expect.due("from LOW to HIGH", x.span(0, LOW, HIGH), -2);
        Expect.due("from -1 over another KIND's", x.span(0, -1, 600), -2);
        Expect.due("from 2048", x.span(3, 2048, 2048), -2);
        Expect.due("from HIGH", x.span(3, HIGH, HIGH), -2);
        Expect.due("from 0", x.span(0, 0, 1), 2);
        Expect.due("from 2047", x.span(3, 2047, 2047), 1);
    }

    private static void spanTo() {
        Expect.sentence("5: -2 from or to is not 0 .. 2047");
        Counted x = new Counted();
        Expect.due("to 2048", x.span(3, 2047, 2048), -2);
        Expect.due("to HIGH", x.span(3, 2047, HIGH), -2);
        Expect.due("to 2048 over another KIND's", x.span(3, 0, 2048), -2);
        Expect.due("to -1", x.span(0, 0, -1), -2);
        Expect.due("to LOW", x.span(0, 0, LOW), -2);
        Expect.due("to 2047", x.span(3, 2046, 2047), 2);
        Expect.due("to 0", x.span(0, 0, 0), 1);
    }

    private static void spanToLessThanFrom() {
        Expect.sentence("5: or to less than from");
        Counted x = new Counted();
        Expect.due("span(0, 5, 4)", x.span(0, 5, 4), -2);
        Expect.due("span(0, 2047, 0)", x.span(0, 2047, 0), -2);
        Expect.due("in another KIND's", x.span(0, 600, 599), -2);
        Expect.due("span(0, 5, 5)", x.span(0, 5, 5), 1);
    }

    private static void spanThatMeetsAnother() {
        Expect.sentence("5: -3 it has an identifier of another KIND's SPAN");
        Counted x = new Counted();
        x.span(1, 600, 700);
        Expect.due("its first", x.span(0, 0, 600), -3);
        Expect.due("up to its first", x.span(0, 0, 599), 600);
        Expect.due("its last", x.span(2, 700, 800), -3);
        Expect.due("down to its last", x.span(2, 701, 800), 100);
        Expect.due("inside it", x.span(3, 650, 651), -3);
        Expect.due("around it", x.span(3, 0, 2047), -3);
        Expect.due("the same", x.span(3, 600, 700), -3);
        Expect.due("between two", x.span(1, 600, 700), 101);
        Expect.due("one more of the next KIND's", x.span(1, 600, 701), -3);
        Expect.due("one more of the KIND's before", x.span(1, 599, 700), -3);
        Expect.due("free ones", x.span(3, 801, 2047), 1247);
    }

    private static void spanThatMeetsItself() {
        Expect.sentence("5: of another KIND's SPAN (its own does not count)");
        Counted x = new Counted();
        for (int kind = 0; kind <= 3; kind++) {
            Expect.due("the same again", x.span(kind, 512 * kind, 512 * kind + 511), 512);
            Expect.due("a part", x.span(kind, 512 * kind + 1, 512 * kind + 510), 510);
            Expect.due("more than that", x.span(kind, 512 * kind, 512 * kind + 511), 512);
        }
    }
}
