/** Counts the calls whose answer is not the one that is due, and prints each. */
final class Due {
    static final long BEYOND = -1000001;
    static final long FULL = -1000002;
    static final long KIND = -1000003;
    static final long NONE = -1000004;
    static final long STATE = -1000005;
    static final long MISSING = -1000006;
    static final long SIZE = -1000007;

    private static int calls = 0;
    private static int wrong = 0;

    private Due() {
    }

    static void due(String call, long got, long want) {
        calls++;
        if (got != want) {
            wrong++;
            System.out.println(call + " answered " + got + ", due is " + want);
        }
    }

    /** Feeds a text, four bytes a call as far as they go. */
    static void feed(InsideOut x, String text) {
        for (int at = 0; at < text.length(); at += 4) {
            int n = Math.min(4, text.length() - at);
            int bytes = 0;
            for (int i = 0; i < n; i++) {
                bytes = bytes << 8 | text.charAt(at + i) & 255;
            }
            due("feed of '" + text + "' from " + at, x.feed(bytes, n), at + n);
        }
    }

    /** Feeds a text to an empty tape and has it read. */
    static int read(InsideOut x, String text) {
        feed(x, text);
        return x.text();
    }

    /** An object with the text's street and umbrellas, whatever its length. */
    static InsideOut from(String... texts) {
        InsideOut x = new InsideOut();
        for (String text : texts) {
            if (read(x, text) < 1) {
                due("text '" + text + "'", 0, 1);
            }
        }
        return x;
    }

    static void end() {
        System.out.println(calls + " answers, " + wrong + " wrong");
        if (wrong != 0 || calls == 0) {
            System.exit(1);
        }
    }
}
