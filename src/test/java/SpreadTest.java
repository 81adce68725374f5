import java.util.Arrays;
import java.util.Random;

/** Terms: THE PEAK, TO SPREAD. Promises 6 offset, 7 at, 8 exact. */
public final class SpreadTest {
    private static final int LOW = Counted.LOW;
    private static final int HIGH = Counted.HIGH;
    private static final int TICKS = 420;

    public static void main(String[] args) {
        periodsThatDivide();
        firstAndLastTick();
        offsetModuloPeriod();
        greatestNumber();
        otherFrames();
        offsetsBelowThePeriod();
        leastPeakAndFirstRow();
        aStepPutsOneFrame();
        rowsThatAreNotBegun();
        rowsThatAreLeft();
        severalRowsLeftAtOnce();
        bestRowSoFar();
        withoutARow();
        exactAtTheEnd();
        exactWithoutFramesThatCount();
        threeThousandSteps();
        againstAPlainSearch();
        peakAsItIs();
        stepsOutsideTheRange();
        atAnOffset();
        atNoFrame();
        exactTheLastTime();
        exactBefore();
        exactBehindANewFrame();
        exactBehindAReadText();
        exactBehindOtherCalls();
        Expect.end();
    }

    private static Counted with(int... periods) {
        Counted x = new Counted();
        for (int period : periods) {
            x.frame(1, period, 50);
        }
        return x;
    }

    private static void periodsThatDivide() {
        Expect.sentence("THE PEAK: FRAMES whose PERIOD divides 420");
        for (int period = 1; period <= 60; period++) {
            Counted x = with(period);
            Expect.due("one of PERIOD " + period, x.offset(3000), TICKS % period == 0 ? 1 : 0);
        }
    }

    /** All rows of these meet at one tick each; the first row's is 0, the last row's (3 2 4 6) is 419. */
    private static void firstAndLastTick() {
        Expect.sentence("begin at each tick of 0 .. 419");
        Counted x = with(4, 3, 5, 7);
        Expect.due("offset(3000)", x.offset(3000), 4);
        Expect.due("exact()", x.exact(), true);
        Expect.due("row", x.row(), "0 0 0 0");
    }

    private static void offsetModuloPeriod() {
        Expect.sentence("that is their OFFSET modulo their PERIOD");
        Counted x = with(2, 4, 4);
        Expect.due("0, 1 and 3 modulo 2, 4 and 4", x.offset(3000), 1);
        Expect.due("row", x.row(), "0 1 3");
        Counted y = with(60, 7);
        Expect.due("they meet once in 420 ticks", y.offset(3000), 2);
        Counted z = with(60, 6);
        Expect.due("they need not meet", z.offset(3000), 1);
        Expect.due("row", z.row(), "0 1");
    }

    private static void greatestNumber() {
        Expect.sentence("it is the greatest number of them that begin at one tick");
        Counted x = new Counted();
        x.frames(40, 1, 1, 0);
        Expect.due("40 at each tick", x.offset(3000), 40);
        Counted y = with(1, 60, 60);
        Expect.due("3 at tick 0 alone", y.offset(0), 3);
        Counted z = with(2, 2, 60, 2);
        z.offset(2);
        Expect.due("4 at tick 0", z.offset(0), 4);
    }

    private static void otherFrames() {
        Expect.sentence("Other FRAMES do not count, and keep their OFFSETS.");
        Counted x = with(8, 2, 9, 2, 16, 11, 59);
        Expect.due("two that count, not spread", x.offset(0), 2);
        Expect.due("offset(3000)", x.offset(3000), 1);
        Expect.due("row", x.row(), "0 0 0 1 0 0 0");
        Expect.due("no step is for them", with(8, 2, 9, 2, 16).offset(3), 1);
    }

    private static void offsetsBelowThePeriod() {
        Expect.sentence("rows of OFFSETS for those FRAMES, each 0 .. PERIOD - 1");
        Counted x = with(3, 3, 3);
        Expect.due("three of PERIOD 3", x.offset(3000), 1);
        Expect.due("row", x.row(), "0 1 2");
        Counted y = with(3, 3, 3, 3);
        Expect.due("four of PERIOD 3", y.offset(3000), 2);
        Expect.due("row", y.row(), "0 0 1 1");
        Counted z = with(1, 1);
        Expect.due("two of PERIOD 1", z.offset(3000), 2);
        Expect.due("row", z.row(), "0 0");
        Expect.due("exact()", z.exact(), true);
    }

    private static void leastPeakAndFirstRow() {
        Expect.sentence("the row with the least PEAK, of these the first");
        Random random = new Random(7);
        for (int trial = 0; trial < 200; trial++) {
            int[] periods = new int[1 + random.nextInt(4)];
            for (int i = 0; i < periods.length; i++) {
                periods[i] = 1 + random.nextInt(6);
            }
            int[] best = firstOfLeast(periods);
            Counted x = with(periods);
            String name = Arrays.toString(periods);
            Expect.due(name + " peak", x.offset(3000), peakOf(periods, best));
            Expect.due(name + " exact()", x.exact(), true);
            Expect.due(name + " row", x.row(), words(best));
        }
    }

    private static String words(int[] row) {
        return Arrays.toString(row).replaceAll("[\\[\\],]", "");
    }

    private static int[] firstOfLeast(int[] periods) {
        int[] row = new int[periods.length];
        int[] best = null;
        boolean more = true;
        while (more) {
            if (best == null || peakOf(periods, row) < peakOf(periods, best)) {
                best = row.clone();
            }
            int last = periods.length - 1;
            while (last >= 0 && row[last] == periods[last] - 1) {
                row[last] = 0;
                last--;
            }
            more = last >= 0;
            if (more) {
                row[last]++;
            }
        }
        return best;
    }

    /** Counts the first frames, as many as the row has. */
    private static int peakOf(int[] periods, int[] row) {
        int peak = 0;
        for (int tick = 0; tick < TICKS; tick++) {
            int begins = 0;
            for (int i = 0; i < row.length; i++) {
                if (tick % periods[i] == row[i]) {
                    begins++;
                }
            }
            peak = Math.max(peak, begins);
        }
        return peak;
    }

    /** Asks new objects with 0 steps, 1 step, .. : the peak and the row that are due for each. */
    private static void stepByStep(int[] periods, int[] peaks, String[] rows, int exactFrom) {
        for (int steps = 0; steps < peaks.length; steps++) {
            Counted x = with(periods);
            String name = Arrays.toString(periods) + " offset(" + steps + ")";
            Expect.due(name, x.offset(steps), peaks[steps]);
            Expect.due(name + " row", x.row(), rows[steps]);
            Expect.due(name + " exact()", x.exact(), steps >= exactFrom);
        }
    }

    /** The rows put are 0, 0 0 (peak 2), 0 1 (peak 1), 1. */
    private static void aStepPutsOneFrame() {
        Expect.sentence("a step puts one FRAME to one OFFSET (the next one of it)");
        stepByStep(new int[] {2, 2}, new int[] {2, 2, 2, 1, 1, 1},
                new String[] {"0 0", "0 0", "0 0", "0 1", "0 1", "0 1"}, 4);
        stepByStep(new int[] {1}, new int[] {1, 1, 1}, new String[] {"0", "0", "0"}, 1);
    }

    /** Step 8 puts 0 0 1 1 (peak 2); then 0 1, 0 1 0, 0 1 1, 1, 1 0, 1 0 0, 1 0 1, 1 1 are put, and no longer row. */
    private static void rowsThatAreNotBegun() {
        Expect.sentence("a row of OFFSETS of the first FRAMES by which there are as many FRAMES at one tick as the best PEAK so far "
                + "is not gone on with");
        int[] peaks = {4, 4, 4, 4, 4, 3, 3, 3, 2, 2, 2, 2, 2, 2, 2, 2, 2, 2};
        String[] rows = new String[peaks.length];
        for (int steps = 0; steps < peaks.length; steps++) {
            rows[steps] = peaks[steps] == 4 ? "0 0 0 0" : peaks[steps] == 3 ? "0 0 0 1" : "0 0 1 1";
        }
        stepByStep(new int[] {2, 2, 2, 2}, peaks, rows, 16);
    }

    /**
     * The rows put are 0, 0 0, 0 0 0 (peak 3), 0 0 1 (peak 2, as 0 0 has), so then 0 1, 0 1 0,
     * 0 1 1, 0 1 2, 0 1 3 (peak 1, as 0 1 and 0 have), so then 1.
     */
    private static void rowsThatAreLeft() {
        Expect.sentence("is not gone on with (also a row that was gone on with before that PEAK)");
        String worse = "0 0 1";
        stepByStep(new int[] {2, 4, 20}, new int[] {3, 3, 3, 3, 2, 2, 2, 2, 2, 1, 1},
                new String[] {"0 0 0", "0 0 0", "0 0 0", "0 0 0", worse, worse, worse, worse, worse, "0 1 3", "0 1 3"}, 10);
        Counted y = with(2, 2, 4, 4);
        Expect.due("offset(19)", y.offset(19), 2);
        Expect.due("exact()", y.exact(), false);
        Expect.due("offset(20)", y.offset(20), 2);
        Expect.due("exact()", y.exact(), true);
        Expect.due("row", y.row(), "0 0 1 1");
    }

    /**
     * Step 8 puts 0 0 1 1 (peak 2, as 0 0 1 and 0 0 have), so step 9 puts 0 1; step 16 puts 0 1 2 3
     * (peak 1), so the other 59 steps put the first frame alone.
     */
    private static void severalRowsLeftAtOnce() {
        Expect.sentence("is not gone on with (several rows at once)");
        int[] peaks = {4, 4, 4, 4, 4, 3, 3, 3, 2, 2, 2, 2, 2, 2, 2, 2, 1, 1};
        for (int steps = 0; steps < peaks.length; steps++) {
            Expect.due("offset(" + steps + ")", with(60, 60, 60, 60).offset(steps), peaks[steps]);
        }
        Counted x = with(60, 60, 60, 60);
        Expect.due("offset(74)", x.offset(74), 1);
        Expect.due("exact()", x.exact(), false);
        Expect.due("offset(75)", x.offset(75), 1);
        Expect.due("exact()", x.exact(), true);
        Expect.due("row", x.row(), "0 1 2 3");
    }

    private static void bestRowSoFar() {
        Expect.sentence("When the steps are spent, the best row so far is taken");
        Counted x = with(2, 2);
        Expect.due("offset(3000)", x.offset(3000), 1);
        Expect.due("row", x.row(), "0 1");
        Expect.due("a row in two steps, worse than the OFFSETS before", x.offset(2), 2);
        Expect.due("is taken", x.row(), "0 0");
        Counted y = with(12, 12, 12);
        Expect.due("the second one of step 4", y.offset(4), 2);
        Expect.due("row", y.row(), "0 0 1");
        Counted z = new Counted();
        z.frames(40, 1, 60, 0);
        Expect.due("40 FRAMES", z.offset(3000) < 40, true);
        Expect.due("the first row of 40 FRAMES", z.offset(40), 40);
        Expect.due("the last one of them", z.at(40), 0);
    }

    private static void withoutARow() {
        Expect.sentence("(without one nothing changes)");
        Counted x = with(2, 2);
        x.offset(3000);
        Expect.due("no step", x.offset(0), 1);
        Expect.due("row", x.row(), "0 1");
        Expect.due("one step for two FRAMES", x.offset(1), 1);
        Expect.due("row", x.row(), "0 1");
        x.frame(1, 2, 50);
        Expect.due("two steps for three FRAMES", x.offset(2), 2);
        Expect.due("row", x.row(), "0 1 0");
        x.print();
        x.read();
        Expect.due("no row is left behind a READ text", x.offset(2), 3);
        Expect.due("row", x.row(), "0 0 0");
        Counted y = new Counted();
        y.frames(40, 1, 60, 0);
        Expect.due("39 steps for 40 FRAMES", y.offset(39), 40);
        Expect.due("exact()", y.exact(), false);
    }

    private static void exactAtTheEnd() {
        Expect.sentence("It is EXACT, if the search came to its end.");
        Counted x = with(60);
        x.offset(59);
        Expect.due("one step too few", x.exact(), false);
        x.offset(60);
        Expect.due("just enough", x.exact(), true);
        x.offset(61);
        Expect.due("one more", x.exact(), true);
        Counted y = new Counted();
        y.frames(40, 1, 1, 0);
        y.offset(39);
        Expect.due("40 FRAMES, 39 steps", y.exact(), false);
        y.offset(40);
        Expect.due("40 FRAMES, 40 steps", y.exact(), true);
    }

    private static void exactWithoutFramesThatCount() {
        Expect.sentence("It is EXACT, if the search came to its end. (it has no FRAMES)");
        Counted none = new Counted();
        Expect.due("no FRAMES", none.offset(0), 0);
        Expect.due("exact()", none.exact(), true);
        Counted others = with(8, 9, 11);
        Expect.due("others alone", others.offset(0), 0);
        Expect.due("exact()", others.exact(), true);
        Expect.due("others alone, all steps", others.offset(3000), 0);
        Expect.due("exact()", others.exact(), true);
        Counted left = with(60, 60, 60);
        Expect.due("a search that does not come to its end", left.offset(5), 2);
        left.read();
        Expect.due("no FRAMES behind it", left.offset(0), 0);
        Expect.due("exact()", left.exact(), true);
    }

    /** All rows of these have the same peak: 60 + 7 * 420 steps, and one more with another FRAME of PERIOD 1 first. */
    private static void threeThousandSteps() {
        Expect.sentence("6: steps 0 .. 3000 (a search of just 3000)");
        Counted x = with(60, 7, 1, 1, 1, 1, 1, 1);
        Expect.due("offset(2999)", x.offset(2999), 8);
        Expect.due("exact()", x.exact(), false);
        Expect.due("offset(3000)", x.offset(3000), 8);
        Expect.due("exact()", x.exact(), true);
        Counted y = with(1, 60, 7, 1, 1, 1, 1, 1, 1);
        Expect.due("offset(3000)", y.offset(3000), 9);
        Expect.due("exact()", y.exact(), false);
    }

    /** The search again, as a recursion that counts each row from nothing. */
    private static final class PlainSearch {
        private final int[] periods;
        private int left;
        private boolean cut = false;
        private int bestPeak = Integer.MAX_VALUE;
        private int[] best = null;

        PlainSearch(int[] periods, int steps) {
            this.periods = periods;
            this.left = steps;
        }

        void goOn(int[] row) {
            if (row.length == periods.length) {
                bestPeak = peakOf(periods, row);
                best = row;
                return;
            }
            int peak = peakOf(periods, row);
            for (int offset = 0; offset < periods[row.length] && peak < bestPeak && !cut; offset++) {
                if (left == 0) {
                    cut = true;
                    return;
                }
                left--;
                int[] longer = Arrays.copyOf(row, row.length + 1);
                longer[row.length] = offset;
                if (peakOf(periods, longer) < bestPeak) {
                    goOn(longer);
                }
            }
        }
    }

    private static void againstAPlainSearch() {
        Expect.sentence("It is searched FRAME by FRAME, in ORDER");
        int[] divisors = {1, 2, 3, 4, 5, 6, 7, 10, 12, 14, 15, 20, 21, 28, 30, 35, 42, 60};
        Random random = new Random(20);
        for (int trial = 0; trial < 250; trial++) {
            int[] periods = new int[1 + random.nextInt(trial % 5 == 0 ? 40 : 8)];
            for (int i = 0; i < periods.length; i++) {
                periods[i] = divisors[random.nextInt(divisors.length)];
            }
            int steps = random.nextInt(trial % 2 == 0 ? 3001 : 100);
            PlainSearch plain = new PlainSearch(periods, steps);
            plain.goOn(new int[0]);
            int[] want = plain.best == null ? new int[periods.length] : plain.best;
            Counted x = with(periods);
            String name = Arrays.toString(periods) + " offset(" + steps + ")";
            Expect.due(name, x.offset(steps), peakOf(periods, want));
            Expect.due(name + " exact()", x.exact(), !plain.cut);
            Expect.due(name + " row", x.row(), words(want));
        }
    }

    private static void peakAsItIs() {
        Expect.sentence("6: TO SPREAD: the PEAK then (as it is).");
        Counted x = with(4, 4);
        Expect.due("not spread", x.offset(0), 2);
        Expect.due("spread", x.offset(3000), 1);
        Expect.due("spread before", x.offset(0), 1);
        x.frame(1, 4, 50);
        Expect.due("one more at tick 0", x.offset(0), 2);
        x.frame(1, 11, 50);
        Expect.due("one more that does not count", x.offset(0), 2);
        Expect.due("spread again", x.offset(3000), 1);
    }

    private static void stepsOutsideTheRange() {
        Expect.sentence("6: -2 steps are not 0 .. 3000");
        Counted x = with(2, 2);
        x.offset(3000);
        long[] none = {-1, 3001, Long.MIN_VALUE, Long.MAX_VALUE, 1L << 32, -(1L << 32), (1L << 32) + 5, LOW, HIGH};
        for (long steps : none) {
            Expect.due("offset(" + steps + ")", x.offset(steps), -2);
            Expect.due("row", x.row(), "0 1");
            Expect.due("exact()", x.exact(), true);
        }
        Expect.due("offset(0)", x.offset(0), 1);
        Expect.due("offset(3000)", x.offset(3000), 1);
    }

    private static void atAnOffset() {
        Expect.sentence("7: A FRAME's OFFSET.");
        Counted x = new Counted();
        x.frames(40, 1, 60, 0);
        Expect.due("at(40) at first", x.at(40), 0);
        Counted y = new Counted();
        y.frames(20, 1, 20, 0);
        Expect.due("20 of PERIOD 20", y.offset(3000), 1);
        for (int i = 1; i <= 20; i++) {
            Expect.due("at(" + i + ")", y.at(i), i - 1);
        }
    }

    private static void atNoFrame() {
        Expect.sentence("7: -1 there is none");
        Counted x = new Counted();
        Expect.due("at(1) without FRAMES", x.at(1), -1);
        x.frames(2, 1, 2, 0);
        int[] none = {0, 3, -1, 40, 41, LOW, HIGH};
        for (int frame : none) {
            Expect.due("at(" + frame + ")", x.at(frame), -1);
        }
        Expect.due("at(2)", x.at(2), 0);
    }

    private static void exactTheLastTime() {
        Expect.sentence("8: Whether TO SPREAD was EXACT the last time");
        Counted x = with(3, 4);
        x.offset(3000);
        Expect.due("enough steps", x.exact(), true);
        Expect.due("asked again", x.exact(), true);
        x.offset(1);
        Expect.due("too few", x.exact(), false);
        x.offset(3000);
        Expect.due("enough again", x.exact(), true);
        x.offset(0);
        Expect.due("none", x.exact(), false);
    }

    private static void exactBefore() {
        Expect.sentence("8: false before");
        Expect.due("without FRAMES", new Counted().exact(), false);
        Expect.due("with FRAMES", with(2, 2).exact(), false);
        Counted x = new Counted();
        x.offset(3001);
        Expect.due("behind a refusal", x.exact(), false);
    }

    private static void exactBehindANewFrame() {
        Expect.sentence("8: and behind any new FRAME");
        Counted x = with(2);
        x.offset(3000);
        x.frame(0, 2, 0);
        Expect.due("behind one that is refused", x.exact(), true);
        x.frame(1, 2, 0);
        Expect.due("behind one that counts", x.exact(), false);
        x.offset(3000);
        x.frame(1, 11, 0);
        Expect.due("behind one that does not count", x.exact(), false);
        Counted y = new Counted();
        y.frames(40, 1, 1, 0);
        y.offset(3000);
        y.frame(1, 1, 0);
        Expect.due("behind one too many", y.exact(), true);
    }

    private static void exactBehindAReadText() {
        Expect.sentence("8: and READ text");
        Counted x = with(2);
        x.offset(3000);
        x.readText("frame 1 2 3 4\n");
        Expect.due("behind a text that is not READ to its end", x.exact(), true);
        x.readText("frame 1 2 3 0\n");
        Expect.due("behind one that is", x.exact(), false);
        x.offset(3000);
        x.print();
        x.read();
        Expect.due("behind its own", x.exact(), false);
        x.offset(3000);
        x.read();
        Expect.due("behind an empty one", x.exact(), false);
    }

    private static void exactBehindOtherCalls() {
        Expect.sentence("8: any new FRAME and READ text (and nothing else)");
        Counted x = with(3, 4);
        x.offset(3000);
        x.reader(1, 2, 3);
        x.gap(1, 1);
        x.span(0, 1, 2);
        x.identifier(1);
        x.check();
        x.sign('a');
        x.letter(0);
        x.print();
        x.touched(1, 0);
        x.at(1);
        Expect.due("exact()", x.exact(), true);
    }
}
