import java.util.Arrays;
import java.util.Random;

/** Promises 6 to 8: offsets that are spread, where they are, and whether the search came to its end. */
public final class SpreadTest {
    private static final int TICKS = 420;

    public static void main(String[] args) {
        refusals();
        noFramesThatCount();
        stepByStep();
        framesThatDoNotCount();
        exactOnlyUntilAChange();
        olderOffsetsAreNoBestRow();
        openRowsAreLeft();
        severalPlacesAreLeftAtOnce();
        leastPeakAndFirstRow();
        againstAPlainSearch();
        Expect.end();
    }

    private static FrameTables with(int... periods) {
        FrameTables x = new FrameTables();
        for (int period : periods) {
            x.frame(1, period, 50);
        }
        return x;
    }

    private static String row(FrameTables x) {
        StringBuilder found = new StringBuilder();
        for (int i = 1; x.at(i) >= 0; i++) {
            found.append(i > 1 ? " " : "").append(x.at(i));
        }
        return found.toString();
    }

    private static void refusals() {
        FrameTables x = with(2, 2);
        Expect.due("offset(3000)", x.offset(3000), 1);
        long[] wrong = {-1, 3001, Long.MIN_VALUE, Long.MAX_VALUE, 1L << 32, -(1L << 32), (1L << 32) + 5};
        for (long steps : wrong) {
            Expect.due("offset(" + steps + ")", x.offset(steps), -2);
            Expect.due("row", row(x), "0 1");
            Expect.due("exact()", x.exact(), true);
        }
        Expect.due("at(0)", x.at(0), -1);
        Expect.due("at(3)", x.at(3), -1);
        Expect.due("at(LOW)", x.at(Integer.MIN_VALUE), -1);
        Expect.due("at(HIGH)", x.at(Integer.MAX_VALUE), -1);
    }

    private static void noFramesThatCount() {
        FrameTables none = new FrameTables();
        Expect.due("exact() before", none.exact(), false);
        Expect.due("no frames", none.offset(0), 0);
        Expect.due("exact()", none.exact(), true);
        FrameTables others = with(8, 9, 11);
        Expect.due("others alone", others.offset(0), 0);
        Expect.due("exact()", others.exact(), true);
    }

    /** Periods 2 and 2: the rows put are 0, 0 0 (peak 2), 0 1 (peak 1), 1. */
    private static void stepByStep() {
        String[] rows = {"0 0", "0 0", "0 0", "0 1", "0 1", "0 1"};
        int[] peaks = {2, 2, 2, 1, 1, 1};
        boolean[] exact = {false, false, false, false, true, true};
        for (int steps = 0; steps < rows.length; steps++) {
            FrameTables x = with(2, 2);
            Expect.due("offset(" + steps + ")", x.offset(steps), peaks[steps]);
            Expect.due("row", row(x), rows[steps]);
            Expect.due("exact()", x.exact(), exact[steps]);
        }
        FrameTables one = with(1);
        Expect.due("one frame, no step", one.offset(0), 1);
        Expect.due("exact()", one.exact(), false);
        Expect.due("one frame, one step", one.offset(1), 1);
        Expect.due("exact()", one.exact(), true);
    }

    private static void framesThatDoNotCount() {
        FrameTables x = with(8, 2, 9, 2, 16, 11);
        Expect.due("offset(3000)", x.offset(3000), 1);
        Expect.due("row", row(x), "0 0 0 1 0 0");
        for (int period = 1; period <= 60; period++) {
            FrameTables y = with(period);
            Expect.due("period " + period, y.offset(3000), TICKS % period == 0 ? 1 : 0);
        }
    }

    private static void exactOnlyUntilAChange() {
        FrameTables x = with(3, 4);
        x.offset(3000);
        Expect.due("exact()", x.exact(), true);
        x.reader(1, 2, 3);
        x.gap(1, 1);
        x.span(0, 1, 2);
        x.print();
        x.frame(0, 0, 0);
        Expect.due("exact() still", x.exact(), true);
        x.frame(1, 11, 1);
        Expect.due("exact() behind a frame", x.exact(), false);
        Expect.due("the others keep theirs", row(x), "0 0 0");
        x.offset(3000);
        Expect.due("exact() again", x.exact(), true);
        x.offset(1);
        Expect.due("exact() the last time", x.exact(), false);
    }

    private static void olderOffsetsAreNoBestRow() {
        FrameTables x = with(2, 2);
        Expect.due("offset(3000)", x.offset(3000), 1);
        Expect.due("no row in one step", x.offset(1), 1);
        Expect.due("nothing changes", row(x), "0 1");
        Expect.due("a worse row in two", x.offset(2), 2);
        Expect.due("is taken", row(x), "0 0");
        x.offset(3000);
        x.frame(1, 2, 50);
        Expect.due("as it is", x.offset(0), 2);
        Expect.due("row", row(x), "0 1 0");
        x.print();
        x.read();
        Expect.due("no row for what was read", x.offset(2), 3);
        Expect.due("nothing changes", row(x), "0 0 0");
    }

    /**
     * Periods 2, 4, 20: the rows put are 0, 0 0, 0 0 0 (peak 3), 0 0 1 (peak 2, as 0 0 has), so
     * then 0 1, 0 1 0, 0 1 1, 0 1 2, 0 1 3 (peak 1, as 0 1 and 0 have), so then 1.
     */
    private static void openRowsAreLeft() {
        int[] peaks = {3, 3, 3, 3, 2, 2, 2, 2, 2, 1, 1};
        for (int steps = 0; steps < peaks.length; steps++) {
            FrameTables x = with(2, 4, 20);
            Expect.due("offset(" + steps + ")", x.offset(steps), peaks[steps]);
            Expect.due("row", row(x), steps < 4 ? "0 0 0" : steps < 9 ? "0 0 1" : "0 1 3");
            Expect.due("exact()", x.exact(), steps >= 10);
        }
        FrameTables y = with(2, 2, 4, 4);
        Expect.due("offset(19)", y.offset(19), 2);
        Expect.due("exact()", y.exact(), false);
        Expect.due("offset(20)", y.offset(20), 2);
        Expect.due("exact()", y.exact(), true);
        Expect.due("row", row(y), "0 0 1 1");
    }

    /**
     * Four periods 60: step 8 puts 0 0 1 1 (peak 2, as 0 0 1 and 0 0 have), so step 9 puts 0 1;
     * step 16 puts 0 1 2 3 (peak 1), so the other 59 steps put the first frame alone.
     */
    private static void severalPlacesAreLeftAtOnce() {
        int[] peaks = {4, 4, 4, 4, 4, 3, 3, 3, 2, 2, 2, 2, 2, 2, 2, 2, 1, 1};
        for (int steps = 0; steps < peaks.length; steps++) {
            FrameTables x = with(60, 60, 60, 60);
            Expect.due("four: offset(" + steps + ")", x.offset(steps), peaks[steps]);
        }
        FrameTables x = with(60, 60, 60, 60);
        Expect.due("four: offset(74)", x.offset(74), 1);
        Expect.due("exact()", x.exact(), false);
        Expect.due("four: offset(75)", x.offset(75), 1);
        Expect.due("exact()", x.exact(), true);
        Expect.due("row", row(x), "0 1 2 3");
    }

    private static void leastPeakAndFirstRow() {
        int[] pool = {1, 2, 3, 4, 5, 6};
        Random random = new Random(7);
        for (int trial = 0; trial < 200; trial++) {
            int[] periods = new int[1 + random.nextInt(4)];
            for (int i = 0; i < periods.length; i++) {
                periods[i] = pool[random.nextInt(pool.length)];
            }
            int[] best = firstOfLeast(periods);
            FrameTables x = with(periods);
            int peak = x.offset(3000);
            String name = Arrays.toString(periods);
            Expect.due(name + " exact()", x.exact(), true);
            Expect.due(name + " peak", peak, peakOf(periods, best));
            for (int i = 0; i < best.length; i++) {
                Expect.due(name + " at(" + (i + 1) + ")", x.at(i + 1), best[i]);
            }
        }
    }

    private static int[] firstOfLeast(int[] periods) {
        int[] row = new int[periods.length];
        int[] best = null;
        boolean more = true;
        while (more) {
            if (best == null || peakOf(periods, row) < peakOf(periods, best)) {
                best = row.clone();
            }
            int last = periods.length - 1;
            while (last >= 0 && row[last] == periods[last] - 1) {
                row[last] = 0;
                last--;
            }
            more = last >= 0;
            if (more) {
                row[last]++;
            }
        }
        return best;
    }

    /** Counts the first frames, as many as the row has. */
    private static int peakOf(int[] periods, int[] row) {
        int peak = 0;
        for (int tick = 0; tick < TICKS; tick++) {
            int begins = 0;
            for (int i = 0; i < row.length; i++) {
                if (tick % periods[i] == row[i]) {
                    begins++;
                }
            }
            peak = Math.max(peak, begins);
        }
        return peak;
    }

    /** The search again, as a recursion that counts each row from nothing. */
    private static final class PlainSearch {
        private final int[] periods;
        private int left;
        private boolean cut = false;
        private int bestPeak = Integer.MAX_VALUE;
        private int[] best = null;

        PlainSearch(int[] periods, int steps) {
            this.periods = periods;
            this.left = steps;
        }

        void goOn(int[] row) {
            if (row.length == periods.length) {
                bestPeak = peakOf(periods, row);
                best = row;
                return;
            }
            int peak = peakOf(periods, row);
            for (int offset = 0; offset < periods[row.length] && peak < bestPeak && !cut; offset++) {
                if (left == 0) {
                    cut = true;
                    return;
                }
                left--;
                int[] longer = Arrays.copyOf(row, row.length + 1);
                longer[row.length] = offset;
                if (peakOf(periods, longer) < bestPeak) {
                    goOn(longer);
                }
            }
        }
    }

    private static void againstAPlainSearch() {
        int[] divisors = {1, 2, 3, 4, 5, 6, 7, 10, 12, 14, 15, 20, 21, 28, 30, 35, 42, 60};
        Random random = new Random(20);
        for (int trial = 0; trial < 250; trial++) {
            int[] periods = new int[1 + random.nextInt(trial % 5 == 0 ? 40 : 8)];
            for (int i = 0; i < periods.length; i++) {
                periods[i] = divisors[random.nextInt(divisors.length)];
            }
            int steps = random.nextInt(trial % 2 == 0 ? 3001 : 100);
            PlainSearch plain = new PlainSearch(periods, steps);
            plain.goOn(new int[0]);
            int[] want = plain.best == null ? new int[periods.length] : plain.best;
            FrameTables x = with(periods);
            String name = Arrays.toString(periods) + " offset(" + steps + ")";
            Expect.due(name, x.offset(steps), peakOf(periods, want));
            Expect.due(name + " exact()", x.exact(), !plain.cut);
            for (int i = 0; i < want.length; i++) {
                Expect.due(name + " at(" + (i + 1) + ")", x.at(i + 1), want[i]);
            }
        }
    }
}
