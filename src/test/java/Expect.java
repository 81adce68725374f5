/** Counts the answers that are not as due, and ends a test with exit code 1 if there were any. */
final class Expect {
    private static int asked = 0;
    private static int wrong = 0;

    private Expect() {
    }

    static void due(String call, long got, long want) {
        asked++;
        if (got != want) {
            wrong++;
            System.out.println(call + " answered " + got + ", due is " + want);
        }
    }

    static void due(String call, boolean got, boolean want) {
        due(call, got ? 1 : 0, want ? 1 : 0);
    }

    static void due(String call, String got, String want) {
        asked++;
        if (!got.equals(want)) {
            wrong++;
            System.out.println(call + " answered <" + got + ">, due is <" + want + ">");
        }
    }

    static void end() {
        System.out.println(asked + " answers, " + wrong + " not as due");
        if (wrong != 0) {
            System.exit(1);
        }
    }

    /** Types a text of characters 1 to 255, four signs a call, the last call filled up with 0. */
    static void type(FrameTables x, String text) {
        for (int i = 0; i < text.length(); i += 4) {
            int four = 0;
            for (int k = 0; k < 4; k++) {
                four = four << 8 | (i + k < text.length() ? text.charAt(i + k) : 0);
            }
            x.sign(four);
        }
    }

    /** The text that is there, letter by letter. */
    static String letters(FrameTables x) {
        StringBuilder found = new StringBuilder();
        for (int i = 0; x.letter(i) >= 0; i++) {
            found.append((char) x.letter(i));
        }
        return found.toString();
    }

    static int readText(FrameTables x, String text) {
        type(x, text);
        return x.read();
    }
}
