import java.util.ArrayDeque;
import java.util.ArrayList;
import java.util.Comparator;
import java.util.Deque;
import java.util.HashSet;
import java.util.List;
import java.util.Set;
import java.util.TreeMap;
import java.util.TreeSet;
import java.util.regex.Matcher;
import java.util.regex.Pattern;

/**
 * The document written a second time, in other ways than the class has (lists, sets, patterns, rows
 * that wait for their turn): what both answer alike is unlikely to be one and the same slip.
 */
final class Model {
    private static final int TICKS = 420;
    private static final String NUMBER = " +([0-9]{1,6})";
    private static final Pattern LINE = Pattern.compile(" *frame" + NUMBER.repeat(4) + "((?: +reads" + NUMBER.repeat(2) + ")*) *");
    private static final Pattern READS = Pattern.compile(" +reads" + NUMBER.repeat(2));

    private static final class Frame {
        final int sender;
        final int period;
        final int rank;
        int gap = 0;
        int offset = 0;
        final TreeMap<Integer, Integer> readers = new TreeMap<>();

        Frame(int sender, int period, int rank) {
            this.sender = sender;
            this.period = period;
            this.rank = rank;
        }

        boolean counts() {
            return TICKS % period == 0;
        }
    }

    /** Offsets of the first frames that count, and what of them begins at each tick. */
    private static final class Row {
        final Row shorter;
        final int length;
        final int offset;
        final int[] begins;
        final int peak;

        Row() {
            shorter = null;
            length = 0;
            offset = 0;
            begins = new int[TICKS];
            peak = 0;
        }

        Row(Row shorter, int period, int offset) {
            this.shorter = shorter;
            this.length = shorter.length + 1;
            this.offset = offset;
            begins = shorter.begins.clone();
            int most = 0;
            for (int tick = 0; tick < TICKS; tick++) {
                if (tick % period == offset) {
                    begins[tick]++;
                }
                most = Math.max(most, begins[tick]);
            }
            peak = most;
        }
    }

    /** A row that waits to be put: a shorter one, and the offset of the next frame. */
    private record Waiting(Row shorter, int offset) {
    }

    private List<Frame> frames = new ArrayList<>();
    private final int[][] spans = {{0, 511}, {512, 1023}, {1024, 1535}, {1536, 2047}};
    private String text = "";
    private boolean exact = false;

    private static boolean within(long number, long least, long most) {
        return least <= number && number <= most;
    }

    private boolean unknown(int frame) {
        return !within(frame, 1, frames.size());
    }

    int frame(int sender, int period, int rank) {
        if (!within(sender, 1, 20) || !within(period, 1, 60) || !within(rank, 0, 99)) {
            return -2;
        }
        if (frames.size() == 40) {
            return -4;
        }
        frames.add(new Frame(sender, period, rank));
        exact = false;
        return frames.size();
    }

    int reader(int frame, int node, int timeout) {
        if (unknown(frame) || !within(node, 1, 20)) {
            return -1;
        }
        if (!within(timeout, 0, 10000)) {
            return -2;
        }
        Frame f = frames.get(frame - 1);
        if (f.sender == node) {
            return -3;
        }
        f.readers.remove(node);
        if (timeout > 0) {
            f.readers.put(node, timeout);
        }
        return f.readers.size();
    }

    /** The identifiers of all frames, given out one after another; -4 for one that has none. */
    private int[] identifiers() {
        List<Integer> order = new ArrayList<>();
        for (int i = 0; i < frames.size(); i++) {
            order.add(i);
        }
        order.sort(Comparator.comparing((Integer i) -> frames.get(i).rank).thenComparing(i -> i));
        int[] found = new int[frames.size()];
        Set<Integer> given = new HashSet<>();
        for (int i : order) {
            int[] span = spans[frames.get(i).rank / 25];
            found[i] = -4;
            for (int id = span[1]; id >= span[0]; id--) {
                found[i] = given.contains(id) ? found[i] : id;
            }
            given.add(found[i]);
        }
        return found;
    }

    int identifier(int frame) {
        return unknown(frame) ? -1 : identifiers()[frame - 1];
    }

    int span(int kind, int from, int to) {
        if (!within(kind, 0, 3)) {
            return -1;
        }
        if (!within(from, 0, 2047) || !within(to, 0, 2047) || to < from) {
            return -2;
        }
        for (int other = 0; other < 4; other++) {
            for (int id = from; id <= to; id++) {
                if (other != kind && within(id, spans[other][0], spans[other][1])) {
                    return -3;
                }
            }
        }
        spans[kind] = new int[] {from, to};
        return to - from + 1;
    }

    int offset(long steps) {
        if (!within(steps, 0, 3000)) {
            return -2;
        }
        List<Frame> counting = new ArrayList<>();
        for (Frame f : frames) {
            if (f.counts()) {
                counting.add(f);
            }
        }
        exact = counting.isEmpty() || spread(counting, steps);
        int peak = 0;
        for (int tick = 0; tick < TICKS; tick++) {
            int begins = 0;
            for (Frame f : counting) {
                begins += tick % f.period == f.offset % f.period ? 1 : 0;
            }
            peak = Math.max(peak, begins);
        }
        return peak;
    }

    /** Whether the search came to its end. */
    private static boolean spread(List<Frame> counting, long steps) {
        Deque<Waiting> waiting = new ArrayDeque<>();
        waitAll(waiting, new Row(), counting);
        Row best = null;
        long spent = 0;
        boolean ended = true;
        while (!waiting.isEmpty() && ended) {
            Waiting next = waiting.pop();
            if (best != null && next.shorter.peak >= best.peak) {
                continue;
            }
            ended = spent < steps;
            spent++;
            Row row = new Row(next.shorter, counting.get(next.shorter.length).period, next.offset);
            if (ended && (best == null || row.peak < best.peak)) {
                if (row.length == counting.size()) {
                    best = row;
                } else {
                    waitAll(waiting, row, counting);
                }
            }
        }
        for (Row row = best; row != null && row.length > 0; row = row.shorter) {
            counting.get(row.length - 1).offset = row.offset;
        }
        return ended;
    }

    private static void waitAll(Deque<Waiting> waiting, Row row, List<Frame> counting) {
        for (int offset = counting.get(row.length).period - 1; offset >= 0; offset--) {
            waiting.push(new Waiting(row, offset));
        }
    }

    int at(int frame) {
        return unknown(frame) ? -1 : frames.get(frame - 1).offset;
    }

    boolean exact() {
        return exact;
    }

    int gap(int frame, int ticks) {
        if (unknown(frame)) {
            return -1;
        }
        if (!within(ticks, 0, frames.get(frame - 1).period)) {
            return -2;
        }
        frames.get(frame - 1).gap = ticks;
        return 1;
    }

    int check() {
        TreeSet<Integer> wrong = new TreeSet<>();
        int[] identifiers = identifiers();
        for (int i = 0; i < frames.size(); i++) {
            Frame f = frames.get(i);
            if (identifiers[i] < 0) {
                wrong.add(1001 + i);
            }
            if (f.readers.isEmpty()) {
                wrong.add(2001 + i);
            }
            if (f.readers.values().stream().anyMatch(timeout -> timeout < f.period)) {
                wrong.add(3001 + i);
            }
            if (frames.subList(0, i).stream().anyMatch(
                    g -> g.sender == f.sender && g.period == f.period && g.rank == f.rank)) {
                wrong.add(4001 + i);
            }
        }
        return wrong.isEmpty() ? 0 : wrong.first();
    }

    void sign(int c) {
        String more = "";
        for (int octet : new int[] {c >> 24 & 255, c >> 16 & 255, c >> 8 & 255, c & 255}) {
            more += octet == 0 ? "" : (char) octet;
        }
        text = (text + more).substring(0, Math.min(2000, text.length() + more.length()));
    }

    int read() {
        String[] lines = text.split("\n", -1);
        text = "";
        List<Frame> told = new ArrayList<>();
        for (int line = 1; line <= lines.length; line++) {
            if (!lines[line - 1].matches(" *") && !tell(lines[line - 1], told)) {
                return -line;
            }
        }
        frames = told;
        exact = false;
        return frames.size();
    }

    private static boolean tell(String line, List<Frame> told) {
        Matcher m = LINE.matcher(line);
        if (!m.matches()) {
            return false;
        }
        Model alone = new Model();
        int made = alone.frame(Integer.parseInt(m.group(1)), Integer.parseInt(m.group(2)), Integer.parseInt(m.group(3)));
        if (made < 0 || alone.gap(1, Integer.parseInt(m.group(4))) < 0) {
            return false;
        }
        Matcher reads = READS.matcher(m.group(5));
        while (reads.find()) {
            int timeout = Integer.parseInt(reads.group(2));
            if (timeout == 0 || alone.reader(1, Integer.parseInt(reads.group(1)), timeout) < 0) {
                return false;
            }
        }
        told.add(alone.frames.get(0));
        return told.size() <= 40;
    }

    int print() {
        StringBuilder all = new StringBuilder();
        for (Frame f : frames) {
            all.append(String.format("frame %d %d %d %d", f.sender, f.period, f.rank, f.gap));
            f.readers.forEach((node, timeout) -> all.append(String.format(" reads %d %d", node, timeout)));
            all.append('\n');
        }
        text = all.length() > 2000 ? "" : all.toString();
        return all.length() > 2000 ? -4 : all.length();
    }

    int letter(int i) {
        return within(i, 0, text.length() - 1) ? text.charAt(i) : -1;
    }

    int touched(int frame, int i) {
        if (unknown(frame)) {
            return -1;
        }
        TreeSet<Integer> nodes = new TreeSet<>(frames.get(frame - 1).readers.keySet());
        nodes.add(frames.get(frame - 1).sender);
        return nodes.stream().skip(Math.max(0, i)).findFirst().filter(node -> i >= 0).orElse(0);
    }
}
