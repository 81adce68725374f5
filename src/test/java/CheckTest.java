/** Promise 10: check. */
public final class CheckTest {
    public static void main(String[] args) {
        noIdentifier();
        nobodyReads();
        shortTimeout();
        sameAsALessNumber();
        rulesInTheirOrder();
        framesByNumbers();
        thousandTimesTheRule();
        nothingWrong();
        Expect.end();
    }

    /** Frames that nothing is wrong with: each another sender, read by node 20. */
    private static Counted right(int frames) {
        Counted x = new Counted();
        for (int i = 1; i <= frames; i++) {
            x.frame(1 + i % 19, 10 + i / 19, 0);
            x.reader(i, 20, 60);
        }
        return x;
    }

    private static void noIdentifier() {
        Expect.sentence("10: 1 it has no identifier");
        Counted x = right(3);
        x.span(0, 5, 7);
        Expect.due("three of three", x.check(), 0);
        x.span(0, 5, 6);
        Expect.due("two of three", x.check(), 1003);
        x.span(0, 5, 5);
        Expect.due("one of three", x.check(), 1002);
    }

    private static void nobodyReads() {
        Expect.sentence("10: 2 nobody READS it");
        Counted x = right(2);
        x.reader(2, 20, 0);
        Expect.due("not any more", x.check(), 2002);
        x.reader(2, 1, 60);
        Expect.due("the first node does", x.check(), 0);
        x.frame(5, 50, 50);
        Expect.due("a new one", x.check(), 2003);
        x.reader(3, 20, 60);
        Expect.due("the last node does", x.check(), 0);
    }

    private static void shortTimeout() {
        Expect.sentence("10: 3 a TIME-OUT is less than its PERIOD");
        Counted x = new Counted();
        x.frame(3, 60, 0);
        x.reader(1, 2, 60);
        Expect.due("as long as it", x.check(), 0);
        x.reader(1, 20, 59);
        Expect.due("the last node's is a tick less", x.check(), 3001);
        x.reader(1, 20, 10000);
        x.reader(1, 1, 1);
        Expect.due("the first node's is 1", x.check(), 3001);
        x.reader(1, 1, 0);
        Expect.due("one that does not READ has none", x.check(), 0);
        Counted y = new Counted();
        y.frame(1, 1, 0);
        y.reader(1, 2, 1);
        Expect.due("the least of both", y.check(), 0);
    }

    private static void sameAsALessNumber() {
        Expect.sentence("10: 4 one with the same SENDER and PERIOD and RANK has a less number");
        Counted x = new Counted();
        int[][] frames = {{1, 10, 5}, {2, 10, 5}, {1, 11, 5}, {1, 10, 6}, {2, 11, 6}, {1, 11, 5}, {1, 10, 5}};
        int[] want = {0, 0, 0, 0, 0, 4006, 4006};
        for (int i = 0; i < frames.length; i++) {
            x.frame(frames[i][0], frames[i][1], frames[i][2]);
            x.reader(i + 1, 9, 100);
            Expect.due("behind frame " + (i + 1), x.check(), want[i]);
        }
        Counted y = right(1);
        y.frame(2, 10, 0);
        y.reader(2, 3, 99);
        y.gap(2, 1);
        Expect.due("readers and GAP do not count", y.check(), 4002);
    }

    private static void rulesInTheirOrder() {
        Expect.sentence("10: The first thing that is wrong, by these RULES in their order");
        Counted x = new Counted();
        x.frames(4, 1, 10, 0);
        x.reader(1, 2, 9);
        x.reader(3, 2, 10);
        x.reader(4, 2, 10);
        x.span(0, 7, 9);
        Expect.due("1 of 4, 2 of 2, 3 of 1, 4 of 2", x.check(), 1004);
        x.span(0, 7, 10);
        Expect.due("2 of 2, 3 of 1, 4 of 2", x.check(), 2002);
        x.reader(2, 2, 10);
        Expect.due("3 of 1, 4 of 2", x.check(), 3001);
        x.reader(1, 2, 10);
        Expect.due("4 of 2", x.check(), 4002);
        Expect.due("it changes nothing", x.check(), 4002);
    }

    private static void framesByNumbers() {
        Expect.sentence("10: for all FRAMES by numbers");
        Counted x = new Counted();
        for (int i = 1; i <= 5; i++) {
            x.frame(i, 10, 10 - i);
            x.reader(i, 20, 10);
        }
        x.span(0, 0, 2);
        Expect.due("no identifier for 1 and 2, the last ones by RANK", x.check(), 1001);
        x.span(0, 0, 4);
        x.reader(5, 20, 0);
        x.reader(3, 20, 0);
        Expect.due("nobody READS 3 and 5", x.check(), 2003);
        x.reader(5, 20, 9);
        x.reader(3, 20, 9);
        Expect.due("a short TIME-OUT for 3 and 5", x.check(), 3003);
    }

    private static void thousandTimesTheRule() {
        Expect.sentence("10: 1000 times the RULE and the FRAME's number");
        Counted x = right(40);
        x.span(0, 0, 38);
        Expect.due("1 of 40", x.check(), 1040);
        x.span(0, 0, 39);
        x.reader(40, 20, 0);
        Expect.due("2 of 40", x.check(), 2040);
        x.reader(40, 20, 11);
        Expect.due("3 of 40", x.check(), 3040);
        x = right(39);
        x.frame(2, 10, 0);
        x.reader(40, 20, 60);
        Expect.due("4 of 40", x.check(), 4040);
    }

    private static void nothingWrong() {
        Expect.sentence("10: 0 if nothing is wrong");
        Expect.due("no FRAMES", new Counted().check(), 0);
        Expect.due("one", right(1).check(), 0);
        Expect.due("40", right(40).check(), 0);
    }
}
