import java.util.Random;

/** Long runs of mixed calls: the class answers each one as the document written a second time does. */
public final class ModelTest {
    private static final int RUNS = 600;
    private static final int CALLS = 512;

    // What a run is about: each one comes to other corners of the document.
    private static final int LONG_TEXTS = 0;
    private static final int FRAMES_ALIKE = 1;
    private static final int MANY_FRAMES = 2;
    private static final int ANY_PERIODS = 3;
    private static final int TYPED_TEXTS = 4;
    private static final int NEARLY_RIGHT = 5;
    private static final int MOODS = 6;

    private static final int[] DIVISORS = {1, 2, 3, 4, 5, 6, 7, 10, 12, 14, 15, 20, 21, 28, 30, 35, 42, 60};
    private static final String[] WORDS = {"frame", "reads", "frames", "read", "", " ", "  ", "\n", "\n\n", " \n ", "\t", "\r", "x",
        "0", "1", "20", "21", "60", "61", "99", "100", "10000", "10001", "000007", "0000007", "-1", "+1", "9a", "\u00ff"};

    private final Random random;
    private final FrameTables table = new FrameTables();
    private final Model model = new Model();
    private final StringBuilder told = new StringBuilder();
    private final int mood;
    private int calls = 0;
    private int frames = 0;
    private boolean differs = false;

    private ModelTest(int seed) {
        told.append("seed ").append(seed).append(": ");
        random = new Random(seed);
        mood = seed % MOODS;
    }

    public static void main(String[] args) {
        Expect.sentence("every call of a run of mixed calls is answered as the document says");
        for (int seed = 0; seed < RUNS; seed++) {
            new ModelTest(seed).run();
        }
        Expect.end();
    }

    private void run() {
        if (mood == LONG_TEXTS) {
            crowd();
        }
        while (calls < CALLS && !differs) {
            callAny();
        }
    }

    /** Behind an answer that differs the two are no longer alike, so nothing more is compared. */
    private void same(String call, long got, long want) {
        calls++;
        if (differs || calls > CALLS) {
            return;
        }
        differs = got != want;
        Expect.due(differs ? told + call : call, got, want);
        told.append(call).append(" -> ").append(got).append("; ");
    }

    private int below(int bound) {
        return random.nextInt(bound);
    }

    /** Mostly within the range, at times at its edges or just outside, seldom far away. */
    private int near(int least, int most) {
        switch (below(12)) {
            case 0:
                return least - below(2);
            case 1:
                return most + below(2);
            case 2:
                return below(8) == 0 ? random.nextInt() : least;
            default:
                return least + below(most - least + 1);
        }
    }

    private int someFrame() {
        return below(15) == 0 ? near(1, 40) : 1 + below(frames + 1);
    }

    private int somePeriod() {
        int divisor = DIVISORS[below(DIVISORS.length - (mood == NEARLY_RIGHT ? 12 : 0))];
        return mood == ANY_PERIODS || below(mood == NEARLY_RIGHT ? 20 : 3) == 0 ? near(1, 60) : divisor;
    }

    /** Few different ranks crowd one KIND and repeat whole FRAMES. */
    private int someRank() {
        return repeats() ? 24 + below(3) : near(0, 99);
    }

    private int someSender() {
        return repeats() ? 1 + below(2) : near(1, 20);
    }

    private boolean repeats() {
        return mood == FRAMES_ALIKE || mood == NEARLY_RIGHT;
    }

    /** Nearly 2000 signs of THE TEXT, or some more. */
    private void crowd() {
        int wanted = 10 + below(3);
        while (frames < wanted && calls < CALLS) {
            frame();
            for (int node = 1; node <= 12; node++) {
                reader(frames, node, 1000 + below(9001));
            }
        }
    }

    private void callAny() {
        int dice = below(100);
        if (dice < (mood == MANY_FRAMES ? 30 : 14)) {
            frame();
        } else if (dice < 38) {
            reader();
        } else if (dice < 50) {
            identifierOrSpan();
        } else if (dice < 66) {
            spread();
        } else if (dice < 72) {
            gap();
        } else if (dice < 80) {
            same("check()", table.check(), model.check());
        } else if (dice < 90) {
            text();
        } else {
            touched();
        }
    }

    private void frame() {
        int sender = someSender();
        int period = somePeriod();
        int rank = someRank();
        int got = table.frame(sender, period, rank);
        same("frame(" + sender + ", " + period + ", " + rank + ")", got, model.frame(sender, period, rank));
        frames = Math.max(frames, got);
    }

    /** If each FRAME is READ by someone in good time, check() comes to its last rule. */
    private void reader() {
        int frame = someFrame();
        int node = near(1, 20);
        int timeout = below(2) == 0 ? near(0, 10000) : near(0, 60);
        reader(frame, node, timeout);
        for (int i = 1; mood == NEARLY_RIGHT && i <= frames; i++) {
            reader(i, 20, 60 + below(9));
            reader(i, node, 60);
        }
    }

    private void reader(int frame, int node, int timeout) {
        same("reader(" + frame + ", " + node + ", " + timeout + ")", table.reader(frame, node, timeout),
                model.reader(frame, node, timeout));
    }

    private void identifierOrSpan() {
        int frame = someFrame();
        same("identifier(" + frame + ")", table.identifier(frame), model.identifier(frame));
        if (below(3) == 0) {
            int kind = near(0, 3);
            int from = below(2) == 0 ? near(0, 2047) : 512 * below(4) + below(3);
            int to = below(2) == 0 ? from + below(6) : near(0, 2047);
            same("span(" + kind + ", " + from + ", " + to + ")", table.span(kind, from, to), model.span(kind, from, to));
        }
    }

    private void spread() {
        if (below(3) == 0) {
            long steps = below(8) == 0 ? near(0, 3000) : below(8) == 0 ? random.nextLong() : below(120);
            same("offset(" + steps + ")", table.offset(steps), model.offset(steps));
        }
        same("exact()", table.exact() ? 1 : 0, model.exact() ? 1 : 0);
        for (int i = 0; i < 3; i++) {
            int frame = someFrame();
            same("at(" + frame + ")", table.at(frame), model.at(frame));
        }
    }

    private void gap() {
        int frame = someFrame();
        int ticks = near(0, 60);
        same("gap(" + frame + ", " + ticks + ")", table.gap(frame, ticks), model.gap(frame, ticks));
    }

    private void touched() {
        int frame = someFrame();
        for (int i = -1; i <= below(21); i++) {
            int which = below(20) == 0 ? random.nextInt() : i;
            same("touched(" + frame + ", " + which + ")", table.touched(frame, which), model.touched(frame, which));
        }
    }

    private void text() {
        int dice = below(10);
        if (dice < 4) {
            same("print()", table.print(), model.print());
        }
        if (dice == 4 || dice == 5 && mood == TYPED_TEXTS || dice < 3 && mood == LONG_TEXTS) {
            type(someText());
        }
        if (dice == 6 || mood == TYPED_TEXTS && dice == 0) {
            sign(below(3) == 0 ? random.nextInt() : "\n 0x".charAt(below(4)));
        }
        for (int i = 0; i < 3; i++) {
            int which = below(mood == LONG_TEXTS ? 2 : 4) == 0 ? near(1900, 1999) : below(60);
            same("letter(" + which + ")", table.letter(which), model.letter(which));
        }
        if (mood == LONG_TEXTS ? below(20) == 0 : dice == 7 || dice == 4 && below(3) > 0) {
            int got = table.read();
            same("read()", got, model.read());
            frames = got >= 0 ? got : frames;
        }
    }

    private void sign(int c) {
        table.sign(c);
        model.sign(c);
        same("sign(" + c + ")", 0, 0);
    }

    private void type(String text) {
        int i = 0;
        while (i < text.length()) {
            int four = 0;
            for (int k = 0; k < 4; k++) {
                boolean left = i < text.length() && below(40) > 0;
                four = four << 8 | (left ? text.charAt(i) : 0);
                i += left ? 1 : 0;
            }
            sign(four);
        }
    }

    /** Some lines that are right; in half of the texts one word of them is another one. */
    private String someText() {
        StringBuilder lines = new StringBuilder();
        int howMany = below(mood == TYPED_TEXTS && below(4) == 0 ? 43 : 6);
        for (int line = 0; line < howMany; line++) {
            int sender = 1 + below(20);
            int period = 1 + below(60);
            lines.append(space(0)).append("frame").append(space(1)).append(sender).append(space(1)).append(period);
            lines.append(space(1)).append(below(100)).append(space(1)).append(below(period + 1));
            for (int reads = howMany > 9 ? 0 : below(5); reads > 0; reads--) {
                int node = 1 + below(20);
                lines.append(space(1)).append("reads").append(space(1));
                lines.append(node == sender && below(9) > 0 ? node % 20 + 1 : node).append(space(1)).append(1 + below(10000));
            }
            lines.append(space(0)).append(line + 1 == howMany && below(2) == 0 ? "" : "\n");
        }
        return below(2) == 0 ? lines.toString() : spoilt(lines.toString());
    }

    private String space(int least) {
        return " ".repeat(least + (below(6) == 0 ? below(3) : 0));
    }

    private String spoilt(String text) {
        int from = below(text.length() + 1);
        int to = Math.min(text.length(), from + below(4));
        while (below(2) == 0 && to < text.length() && text.charAt(to) != ' ') {
            to++;
        }
        return text.substring(0, from) + WORDS[below(WORDS.length)] + text.substring(to);
    }
}
