/**
 * A table of frames on a bus: identifiers by ranks out of spans, periods, readers with time-outs,
 * gaps, offsets spread so that the fewest frames begin at one tick, what is wrong with it, and a
 * text of it that is written and read.
 */
public final class FrameTables {
    private static final int MOST_FRAMES = 40;
    private static final int MOST_NODES = 20;
    private static final int MOST_PERIOD = 60;
    private static final int MOST_RANK = 99;
    private static final int MOST_TIMEOUT = 10000;
    private static final int MOST_SIGNS = 2000;
    private static final int MOST_STEPS = 3000;
    private static final int MOST_DIGITS = 6;

    private static final int KINDS = 4;
    private static final int RANKS_OF_A_KIND = 25;
    private static final int IDENTIFIERS = 2048;
    private static final int TICKS = 420;

    private static final int RULES = 4;
    private static final int RULE_WEIGHT = 1000;

    private static final int UNKNOWN = -1;
    private static final int OUTSIDE = -2;
    private static final int WRONG_STATE = -3;
    private static final int NO_ROOM = -4;

    private static final int NONE = -1;

    private static final char SPACE = ' ';
    private static final char LINE_FEED = '\n';
    private static final String FRAME_WORD = "frame";
    private static final String READS_WORD = "reads";

    // Two tables, so that a text that turns out wrong leaves the one in use untouched.
    private Table table;
    private Table draft;
    private final Spans spans;
    private final Text text;
    private final Parser parser;
    private final Search search;
    private boolean spreadWasExact;

    public FrameTables() {
        table = new Table();
        draft = new Table();
        spans = new Spans();
        text = new Text();
        parser = new Parser(text);
        search = new Search();
        spreadWasExact = false;
    }

    public int frame(int sender, int period, int rank) {
        if (!isNode(sender) || !isPeriod(period) || !isRank(rank)) {
            return OUTSIDE;
        }
        if (table.isFull()) {
            return NO_ROOM;
        }
        spreadWasExact = false;
        return table.append(sender, period, rank, 0);
    }

    public int reader(int frame, int node, int timeout) {
        if (!table.has(frame) || !isNode(node)) {
            return UNKNOWN;
        }
        if (timeout < 0 || timeout > MOST_TIMEOUT) {
            return OUTSIDE;
        }
        if (table.senderOf(frame) == node) {
            return WRONG_STATE;
        }
        table.setTimeout(frame, node, timeout);
        return table.readersOf(frame);
    }

    public int identifier(int frame) {
        if (!table.has(frame)) {
            return UNKNOWN;
        }
        int found = identifierOf(frame);
        return found == NONE ? NO_ROOM : found;
    }

    public int span(int kind, int from, int to) {
        if (kind < 0 || kind >= KINDS) {
            return UNKNOWN;
        }
        if (!isIdentifier(from) || !isIdentifier(to) || to < from) {
            return OUTSIDE;
        }
        if (spans.meetAnother(kind, from, to)) {
            return WRONG_STATE;
        }
        spans.set(kind, from, to);
        return to - from + 1;
    }

    public int offset(long steps) {
        if (steps < 0 || steps > MOST_STEPS) {
            return OUTSIDE;
        }
        search.begin(table);
        for (long spent = 0; spent < steps && !search.isOver(); spent++) {
            search.step();
        }
        search.giveBestRowTo(table);
        spreadWasExact = search.isOver();
        return search.peakOf(table);
    }

    public int at(int frame) {
        return table.has(frame) ? table.offsetOf(frame) : UNKNOWN;
    }

    public boolean exact() {
        return spreadWasExact;
    }

    public int gap(int frame, int ticks) {
        if (!table.has(frame)) {
            return UNKNOWN;
        }
        if (ticks < 0 || ticks > table.periodOf(frame)) {
            return OUTSIDE;
        }
        table.setGap(frame, ticks);
        return 1;
    }

    public int check() {
        for (int rule = 1; rule <= RULES; rule++) {
            for (int frame = 1; frame <= table.size(); frame++) {
                if (breaks(rule, frame)) {
                    return RULE_WEIGHT * rule + frame;
                }
            }
        }
        return 0;
    }

    public void sign(int c) {
        for (int shift = 24; shift >= 0; shift -= 8) {
            int octet = (c >>> shift) & 255;
            if (octet != 0) {
                text.add((char) octet);
            }
        }
    }

    public int read() {
        int wrongLine = parser.fill(draft);
        text.clear();
        if (wrongLine > 0) {
            return -wrongLine;
        }
        Table replaced = table;
        table = draft;
        draft = replaced;
        spreadWasExact = false;
        return table.size();
    }

    public int print() {
        text.clear();
        for (int frame = 1; frame <= table.size(); frame++) {
            writeLine(frame);
        }
        if (text.hasLostSigns()) {
            text.clear();
            return NO_ROOM;
        }
        return text.length();
    }

    public int letter(int i) {
        int found = text.signAt(i);
        return found == NONE ? UNKNOWN : found;
    }

    public int touched(int frame, int i) {
        if (!table.has(frame)) {
            return UNKNOWN;
        }
        int before = 0;
        for (int node = 1; node <= MOST_NODES; node++) {
            if (table.touches(frame, node)) {
                if (before == i) {
                    return node;
                }
                before++;
            }
        }
        return 0;
    }

    private static boolean isNode(int number) {
        return number >= 1 && number <= MOST_NODES;
    }

    private static boolean isPeriod(int ticks) {
        return ticks >= 1 && ticks <= MOST_PERIOD;
    }

    private static boolean isRank(int rank) {
        return rank >= 0 && rank <= MOST_RANK;
    }

    private static boolean isIdentifier(int number) {
        return number >= 0 && number < IDENTIFIERS;
    }

    // SPANS never meet, so the FRAMES before one in its own KIND have the SPAN's first identifiers.
    private int identifierOf(int frame) {
        return spans.identifierAt(table.kindOf(frame), table.placeInKind(frame));
    }

    private boolean breaks(int rule, int frame) {
        switch (rule) {
            case 1:
                return identifierOf(frame) == NONE;
            case 2:
                return table.readersOf(frame) == 0;
            case 3:
                return table.hasShortTimeout(frame);
            case 4:
                return table.repeatsAnEarlierOne(frame);
            default:
                return false;
        }
    }

    private void writeLine(int frame) {
        text.addWord(FRAME_WORD);
        text.addNumber(table.senderOf(frame));
        text.addNumber(table.periodOf(frame));
        text.addNumber(table.rankOf(frame));
        text.addNumber(table.gapOf(frame));
        for (int node = 1; node <= MOST_NODES; node++) {
            if (table.reads(frame, node)) {
                text.add(SPACE);
                text.addWord(READS_WORD);
                text.addNumber(node);
                text.addNumber(table.timeoutOf(frame, node));
            }
        }
        text.add(LINE_FEED);
    }

    /** The FRAMES with their readers; rows and readers are kept by numbers from 1 on. */
    private static final class Table {
        private static final int NODE_ROOM = MOST_NODES + 1;

        private final int[] senders = new int[MOST_FRAMES + 1];
        private final int[] periods = new int[MOST_FRAMES + 1];
        private final int[] ranks = new int[MOST_FRAMES + 1];
        private final int[] gaps = new int[MOST_FRAMES + 1];
        private final int[] offsets = new int[MOST_FRAMES + 1];
        // A row of nodes for each FRAME, in one array to spare objects; 0 where a node does not read.
        private final int[] timeouts = new int[(MOST_FRAMES + 1) * NODE_ROOM];
        private int size = 0;

        void clear() {
            size = 0;
        }

        int size() {
            return size;
        }

        boolean isFull() {
            return size >= MOST_FRAMES;
        }

        boolean has(int frame) {
            return frame >= 1 && frame <= size;
        }

        int append(int sender, int period, int rank, int gap) {
            if (isFull()) {
                return NONE;
            }
            size++;
            senders[size] = sender;
            periods[size] = period;
            ranks[size] = rank;
            gaps[size] = gap;
            offsets[size] = 0;
            for (int node = 1; node <= MOST_NODES; node++) {
                setTimeout(size, node, 0);
            }
            return size;
        }

        int senderOf(int frame) {
            return senders[frame];
        }

        int periodOf(int frame) {
            return periods[frame];
        }

        int rankOf(int frame) {
            return ranks[frame];
        }

        int kindOf(int frame) {
            return ranks[frame] / RANKS_OF_A_KIND;
        }

        int gapOf(int frame) {
            return gaps[frame];
        }

        void setGap(int frame, int ticks) {
            gaps[frame] = ticks;
        }

        int offsetOf(int frame) {
            return offsets[frame];
        }

        void setOffset(int frame, int ticks) {
            offsets[frame] = ticks;
        }

        int timeoutOf(int frame, int node) {
            return timeouts[frame * NODE_ROOM + node];
        }

        void setTimeout(int frame, int node, int ticks) {
            timeouts[frame * NODE_ROOM + node] = ticks;
        }

        boolean reads(int frame, int node) {
            return timeoutOf(frame, node) > 0;
        }

        boolean touches(int frame, int node) {
            return senders[frame] == node || reads(frame, node);
        }

        int readersOf(int frame) {
            int found = 0;
            for (int node = 1; node <= MOST_NODES; node++) {
                if (reads(frame, node)) {
                    found++;
                }
            }
            return found;
        }

        /** How many FRAMES of its KIND come before it, by RANK and then by number. */
        int placeInKind(int frame) {
            int before = 0;
            for (int other = 1; other <= size; other++) {
                if (kindOf(other) == kindOf(frame) && comesBefore(other, frame)) {
                    before++;
                }
            }
            return before;
        }

        boolean hasShortTimeout(int frame) {
            for (int node = 1; node <= MOST_NODES; node++) {
                if (reads(frame, node) && timeoutOf(frame, node) < periods[frame]) {
                    return true;
                }
            }
            return false;
        }

        boolean repeatsAnEarlierOne(int frame) {
            for (int other = 1; other < frame; other++) {
                if (senders[other] == senders[frame] && periods[other] == periods[frame]
                        && ranks[other] == ranks[frame]) {
                    return true;
                }
            }
            return false;
        }

        private boolean comesBefore(int other, int frame) {
            return ranks[other] < ranks[frame] || (ranks[other] == ranks[frame] && other < frame);
        }
    }

    /** The SPAN of identifiers of each KIND; no two of them meet. */
    private static final class Spans {
        private static final int FIRST_LENGTH = IDENTIFIERS / KINDS;

        private final int[] firsts = new int[KINDS];
        private final int[] lasts = new int[KINDS];

        Spans() {
            for (int kind = 0; kind < KINDS; kind++) {
                firsts[kind] = kind * FIRST_LENGTH;
                lasts[kind] = firsts[kind] + FIRST_LENGTH - 1;
            }
        }

        void set(int kind, int from, int to) {
            firsts[kind] = from;
            lasts[kind] = to;
        }

        boolean meetAnother(int kind, int from, int to) {
            for (int other = 0; other < KINDS; other++) {
                if (other != kind && from <= lasts[other] && to >= firsts[other]) {
                    return true;
                }
            }
            return false;
        }

        int identifierAt(int kind, int place) {
            int found = firsts[kind] + place;
            return found <= lasts[kind] ? found : NONE;
        }
    }

    /** The signs that were typed or written, with room for so many and no more. */
    private static final class Text {
        private final char[] signs = new char[MOST_SIGNS];
        private int length = 0;
        private boolean lostSigns = false;

        void clear() {
            length = 0;
            lostSigns = false;
        }

        int length() {
            return length;
        }

        boolean hasLostSigns() {
            return lostSigns;
        }

        int signAt(int i) {
            return i >= 0 && i < length ? signs[i] : NONE;
        }

        void add(char sign) {
            if (length >= MOST_SIGNS) {
                lostSigns = true;
                return;
            }
            signs[length] = sign;
            length++;
        }

        void addWord(String word) {
            for (int i = 0; i < word.length(); i++) {
                add(word.charAt(i));
            }
        }

        void addNumber(int number) {
            add(SPACE);
            int unit = 1;
            while (unit <= number / 10) {
                unit *= 10;
            }
            for (int rest = unit; rest > 0; rest /= 10) {
                add((char) ('0' + number / rest % 10));
            }
        }
    }

    /** Reads the text line by line into a table; it looks at one word at a time. */
    private static final class Parser {
        private final Text text;
        private int wordStart = 0;
        private int wordEnd = 0;
        private int lineEnd = 0;

        Parser(Text text) {
            this.text = text;
        }

        /** The number of the line that ended it, or 0 if there was none. */
        int fill(Table draft) {
            draft.clear();
            int line = 1;
            int start = 0;
            for (int i = 0; i <= text.length(); i++) {
                if (i == text.length() || text.signAt(i) == LINE_FEED) {
                    if (!takeLine(start, i, draft)) {
                        return line;
                    }
                    line++;
                    start = i + 1;
                }
            }
            return 0;
        }

        private boolean takeLine(int start, int end, Table draft) {
            wordEnd = start;
            lineEnd = end;
            if (!nextWord()) {
                return true;
            }
            return wordIs(FRAME_WORD) && takeFrame(draft) && takeReaders(draft);
        }

        private boolean takeFrame(Table draft) {
            int sender = nextNumber();
            int period = nextNumber();
            int rank = nextNumber();
            int ticks = nextNumber();
            if (!isNode(sender) || !isPeriod(period) || !isRank(rank)) {
                return false;
            }
            if (ticks < 0 || ticks > period || draft.isFull()) {
                return false;
            }
            draft.append(sender, period, rank, ticks);
            return true;
        }

        private boolean takeReaders(Table draft) {
            for (int told = 0; told <= MOST_SIGNS; told++) {
                if (!nextWord()) {
                    return true;
                }
                boolean isReads = wordIs(READS_WORD);
                int node = nextNumber();
                int timeout = nextNumber();
                if (!isReads || !mayRead(draft, node, timeout)) {
                    return false;
                }
                draft.setTimeout(draft.size(), node, timeout);
            }
            return false;
        }

        // A TIME-OUT of 0 is never written, since such a node does not read: here it is none.
        private boolean mayRead(Table draft, int node, int timeout) {
            return isNode(node) && node != draft.senderOf(draft.size())
                    && timeout >= 1 && timeout <= MOST_TIMEOUT;
        }

        private boolean nextWord() {
            wordStart = wordEnd;
            while (wordStart < lineEnd && text.signAt(wordStart) == SPACE) {
                wordStart++;
            }
            wordEnd = wordStart;
            while (wordEnd < lineEnd && text.signAt(wordEnd) != SPACE) {
                wordEnd++;
            }
            return wordEnd > wordStart;
        }

        private boolean wordIs(String wanted) {
            if (wordEnd - wordStart != wanted.length()) {
                return false;
            }
            for (int i = 0; i < wanted.length(); i++) {
                if (text.signAt(wordStart + i) != wanted.charAt(i)) {
                    return false;
                }
            }
            return true;
        }

        private int nextNumber() {
            if (!nextWord() || wordEnd - wordStart > MOST_DIGITS) {
                return NONE;
            }
            int number = 0;
            for (int i = wordStart; i < wordEnd; i++) {
                int digit = text.signAt(i) - '0';
                if (digit < 0 || digit > 9) {
                    return NONE;
                }
                number = number * 10 + digit;
            }
            return number;
        }
    }

    /**
     * The search TO SPREAD. Only FRAMES that count have a place in it, in their order; the places
     * before the one at hand are put to an OFFSET, and their begins are counted.
     */
    private static final class Search {
        private final int[] frames = new int[MOST_FRAMES];
        private final int[] strides = new int[MOST_FRAMES];
        private final int[] nextOffsets = new int[MOST_FRAMES];
        private final int[] peaksBefore = new int[MOST_FRAMES];
        private final int[] bestRow = new int[MOST_FRAMES];
        private final int[] begins = new int[TICKS];
        private int places = 0;
        private int place = NONE;
        private int bestPeak = 0;

        void begin(Table table) {
            lay(table);
            bestPeak = MOST_FRAMES + 1;
            place = NONE;
            if (places > 0) {
                enter(0, 0);
            }
        }

        boolean isOver() {
            return place < 0;
        }

        void step() {
            if (isOver()) {
                return;
            }
            int offset = nextOffsets[place];
            nextOffsets[place]++;
            int peak = Math.max(peaksBefore[place], mostBeginsWith(place, offset));
            if (peak < bestPeak) {
                goOn(offset, peak);
            }
            leaveClosedPlaces();
        }

        void giveBestRowTo(Table table) {
            if (bestPeak > MOST_FRAMES) {
                return;
            }
            for (int i = 0; i < places; i++) {
                table.setOffset(frames[i], bestRow[i]);
            }
        }

        int peakOf(Table table) {
            lay(table);
            int peak = 0;
            for (int i = 0; i < places; i++) {
                int offset = table.offsetOf(frames[i]);
                peak = Math.max(peak, mostBeginsWith(i, offset));
                addBegins(i, offset, 1);
            }
            return peak;
        }

        private void lay(Table table) {
            for (int tick = 0; tick < TICKS; tick++) {
                begins[tick] = 0;
            }
            places = 0;
            for (int frame = 1; frame <= table.size() && places < MOST_FRAMES; frame++) {
                int period = table.periodOf(frame);
                if (period > 0 && TICKS % period == 0) {
                    frames[places] = frame;
                    strides[places] = period;
                    places++;
                }
            }
        }

        private void enter(int next, int peak) {
            place = next;
            nextOffsets[next] = 0;
            peaksBefore[next] = peak;
        }

        private void goOn(int offset, int peak) {
            if (place + 1 < places) {
                addBegins(place, offset, 1);
                enter(place + 1, peak);
            } else {
                keepRow(peak);
            }
        }

        private void keepRow(int peak) {
            bestPeak = peak;
            for (int i = 0; i < places; i++) {
                bestRow[i] = nextOffsets[i] - 1;
            }
        }

        private void leaveClosedPlaces() {
            while (place >= 0 && isClosed(place)) {
                place--;
                if (place >= 0) {
                    addBegins(place, nextOffsets[place] - 1, -1);
                }
            }
        }

        /** A better row may have been found since the row before this place was gone on with: it is judged again. */
        private boolean isClosed(int i) {
            return nextOffsets[i] >= strides[i] || peaksBefore[i] >= bestPeak;
        }

        /** The most begins at one tick of this place's FRAME, if it were put to the OFFSET too. */
        private int mostBeginsWith(int i, int offset) {
            int stride = Math.max(1, strides[i]);
            int peak = 0;
            for (int tick = offset; tick < TICKS; tick += stride) {
                peak = Math.max(peak, begins[tick] + 1);
            }
            return peak;
        }

        private void addBegins(int i, int offset, int change) {
            int stride = Math.max(1, strides[i]);
            for (int tick = offset; tick < TICKS; tick += stride) {
                begins[tick] += change;
            }
        }
    }
}
