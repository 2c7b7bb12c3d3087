/** Promises 28 to 30: the edges of THE TAPE, of TOKENS, of each NUMBER and of each FAULT. */
public final class TextEdgesTest {
    private static final String LONG_TEXT =
        "umbrella at 16 ribs 8 held 3 habit 3;golf at 0 ribs 0 held 0 habit 0;left 15 99;roof 0;open 15;rain 99;gust 0;below 0 0";

    public static void main(String[] args) {
        bytesOfANumber();
        feedUpToFull();
        wipeOfAll();
        emptyAndFull();
        mostItems();
        lastAndFirstNumbers();
        greatNumbers();
        leadingNoughts();
        endsTooEarly();
        tokensAsLongAsCanBe();
        orderOfMarks();
        itemBehindItem();
        everyByte();
        ninthUmbrella();
        firstFaultCounts();
        tapeIsEmptyThen();
        sweep();
        Due.end();
    }

    private static void due(String call, long got, long want) {
        Due.due(call, got, want);
    }

    private static void dueText(String text, int want) {
        InsideOut x = new InsideOut();
        due("text '" + text + "'", Due.read(x, text), want);
        due("bytes behind '" + text + "'", x.count(5), 0);
        due("findings behind '" + text + "'", x.status(-1), 0);
    }

    private static void dueFault(String text, int place) {
        dueText(text, -1 - place);
    }

    private static InsideOut filled(int bytes) {
        InsideOut x = new InsideOut();
        for (int i = 1; i <= bytes; i++) {
            due("feed(32, 1)", x.feed(32, 1), i);
        }
        return x;
    }

    /** "the n lowest bytes of a number .., the highest of these first (n 1 to 4)". */
    private static void bytesOfANumber() {
        InsideOut x = new InsideOut();
        due("n 4", x.feed(0x62696720, 4), 4);
        due("n 2", x.feed(0x80806174, 2), 6);
        due("n 1", x.feed(0xffffff20, 1), 7);
        due("n 3", x.feed(0x80202037, 3), 10);
        due("text 'big at   7'", x.text(), 1);
        due("AT", x.of(0, 1), 7);
        due("the highest byte is 255", x.feed(-1, 4), 4);
        due("a byte that begins no TOKEN", x.text(), -1);
        due("a number below 0, its lowest byte", x.feed(-256 + ' ', 1), 1);
        due("text ' '", x.text(), -2);
        due("bytes of 0", x.feed(0, 4), 4);
        due("0 is no blank", x.text(), -1);
    }

    /** "FULL": the last that fits and the first that doesn't, for each n. */
    private static void feedUpToFull() {
        for (int n = 1; n <= 4; n++) {
            InsideOut x = filled(120 - n);
            due("feed " + n + " up to 120", x.feed(0x20202020, n), 120);
            due("count(5)", x.count(5), 120);
            due("feed 1 behind 120", x.feed(32, 1), Due.FULL);
            x = filled(121 - n);
            due("feed " + n + " up to 121", x.feed(0x41414141, n), Due.FULL);
            due("count(5) stays", x.count(5), 121 - n);
            due("status(1)", x.status(1), 1);
            due("the bytes stay", x.text(), -1 - (121 - n));
        }
    }

    /** "THE TAPE is empty: how many it had". */
    private static void wipeOfAll() {
        for (int bytes : new int[] {0, 1, 119, 120}) {
            InsideOut x = filled(bytes);
            due("wipe of " + bytes, x.wipe(), bytes);
            due("count(5)", x.count(5), 0);
            due("wipe again", x.wipe(), 0);
            due("feed behind it", x.feed(32, 1), 1);
            due("findings", x.status(-1), 0);
        }
    }

    /** THE TAPE empty, and with 119 and 120 bytes. */
    private static void emptyAndFull() {
        dueFault("", 0);
        dueText(LONG_TEXT, 8);
        due("bytes of the long text", LONG_TEXT.length(), 119);
        dueText(LONG_TEXT + " ", 8);
        dueText(LONG_TEXT + "9", 8);
        dueFault(LONG_TEXT + ";", 120);
        dueFault(LONG_TEXT + "x", 119);
        InsideOut x = filled(120);
        due("120 blanks", x.text(), -121);
        x = filled(119);
        x.feed('x', 1);
        due("119 blanks and a WORD", x.text(), -120);
        StringBuilder letters = new StringBuilder();
        StringBuilder digits = new StringBuilder("rain ");
        while (letters.length() < 120) {
            letters.append('a');
        }
        while (digits.length() < 119) {
            digits.append('0');
        }
        dueFault(letters.toString(), 0);
        dueText(digits + "7", 1);
        dueFault(digits.substring(0, 116) + "1000", 5);
    }

    /** "how many ITEMS": one, and as many as 120 bytes can have. */
    private static void mostItems() {
        dueText("big", 1);
        dueText("rain0", 1);
        StringBuilder text = new StringBuilder("big;big;big;big;big;big;big;big");
        for (int i = 0; i < 14; i++) {
            text.append(";rain").append(i % 10);
        }
        InsideOut x = new InsideOut();
        due("22 ITEMS", Due.read(x, text.toString()), 22);
        due("UMBRELLAS", x.count(1), 8);
        due("RAIN of the last", x.weather(0, 0), 3);
        text = new StringBuilder("open0");
        for (int i = 1; i < 20; i++) {
            text.append(";open").append(i % 10);
        }
        dueText(text.toString(), 20);
    }

    /** Each NUMBER's last that stands there and the first that doesn't. */
    private static void lastAndFirstNumbers() {
        String[] kinds = {"umbrella", "big", "small", "bent", "binned", "paper", "golf"};
        String[] marks = {" at ", " ribs ", " held ", " habit "};
        int[] whats = {1, 4, 2, 3};
        int[] greatest = {16, 8, 3, 3};
        for (int kind = 0; kind < kinds.length; kind++) {
            for (int i = 0; i < marks.length; i++) {
                String begin = kinds[kind] + marks[i];
                for (int v = 0; v <= greatest[i]; v++) {
                    InsideOut x = new InsideOut();
                    due(begin + v, Due.read(x, begin + v), 1);
                    due("KIND of " + begin + v, x.of(0, 0), kind);
                    due("of " + begin + v, x.of(0, whats[i]), v);
                }
                dueFault(begin + (greatest[i] + 1), begin.length());
            }
        }
        String[] winds = {"left ", "right ", "below "};
        for (int from = 0; from < 3; from++) {
            for (int step = 0; step <= 15; step += 15) {
                for (int strength = 0; strength <= 99; strength += 99) {
                    InsideOut x = new InsideOut();
                    x.step(step, 0, 1);
                    due(winds[from] + step + " " + strength, Due.read(x, winds[from] + step + " " + strength), 1);
                    due("FROM", x.stepOf(step, 0), from);
                    due("STRENGTH", x.stepOf(step, 1), strength);
                }
            }
            dueFault(winds[from] + "16 0", winds[from].length());
            dueFault(winds[from] + "15 100", winds[from].length() + 3);
            dueFault(winds[from] + "16 100", winds[from].length());
        }
        dueText("roof 15", 1);
        dueText("open 15", 1);
        dueText("rain 99", 1);
        dueText("gust 99", 1);
        dueText("roof 0;open 0;rain 0;gust 0", 4);
        dueFault("roof 16", 5);
        dueFault("open 16", 5);
        dueFault("rain 100", 5);
        dueFault("gust 100", 5);
    }

    /** "NUMBERS (digits, 999 at most)": a greater one is one TOKEN still, and stands nowhere. */
    private static void greatNumbers() {
        String[] great = {"999", "1000", "1001", "9999", "65536", "65545", "4294967296", "4294967297",
            "18446744073709551616", "18446744073709551617", "99999999999999999999999999999999"};
        for (String number : great) {
            dueFault("rain " + number, 5);
            dueFault("roof " + number, 5);
            dueFault("big at " + number, 7);
            dueFault("left " + number + " 1", 5);
            dueFault("left 1 " + number, 7);
            dueFault(number, 0);
        }
    }

    /** 000 is 0, 0099 is 99, 00100 is 100. */
    private static void leadingNoughts() {
        InsideOut x = new InsideOut();
        due("rain 0099", Due.read(x, "rain 0099"), 1);
        due("RAIN", x.weather(0, 8), 99);
        due("rain 000", Due.read(x, "rain 000"), 1);
        due("RAIN", x.weather(0, 8), 0);
        dueFault("rain 00100", 5);
        dueText("big at 016 ribs 008 held 03 habit 0003", 1);
        dueFault("big at 017", 7);
    }

    /** "or how many bytes there are if it ends too early", blanks at the end counted. */
    private static void endsTooEarly() {
        String[] texts = {
            "", "big;", "big at", "big ribs", "big held", "big habit", "big at 1 ribs", "big at 1 ribs 1 held",
            "big at 1 ribs 1 held 1 habit", "left", "right", "below", "left 1", "right 1", "below 1", "roof", "open",
            "rain", "gust", "rain 1;gust", "rain 1;", "left 1 1;right 2", "big at 1;",
        };
        for (String text : texts) {
            dueFault(text, text.length());
            dueFault(text + " ", text.length() + 1);
            dueFault(text + "   ", text.length() + 3);
        }
        dueText("big at 1 ribs 1 held 1 habit 1   ", 1);
        dueText("left 1 1   ", 1);
    }

    /** "TOKENS, each as long as can be .. blanks may stand between". */
    private static void tokensAsLongAsCanBe() {
        dueText("big at16ribs8held3habit3", 1);
        dueText("left1 1", 1);
        dueFault("left11", 6);
        dueFault("bigat 1", 0);
        dueFault("bi g", 0);
        dueFault("big a t 1", 4);
        dueFault("rain 1 0", 7);
        dueText("rain 10", 1);
        dueFault("left 1 12 3", 10);
        dueFault("roof1open2", 5);
        dueFault("big7", 3);
        dueText("  big  ;  small  ", 2);
        dueText("big;small", 2);
        dueFault("umbrellabig", 0);
        dueFault("umbrell", 0);
        dueFault("golfs", 0);
    }

    /** "perhaps at .., perhaps ribs .., perhaps held .., perhaps habit": each may be left out, none comes back. */
    private static void orderOfMarks() {
        String[] marks = {" at 1", " ribs 2", " held 2", " habit 3"};
        int[] whats = {1, 4, 2, 3};
        int[] told = {1, 2, 2, 3};
        int[] first = {0, 8, 0, 0};
        for (int set = 0; set < 16; set++) {
            StringBuilder text = new StringBuilder("bent");
            for (int i = 0; i < 4; i++) {
                text.append((set >> i & 1) == 1 ? marks[i] : "");
            }
            InsideOut x = new InsideOut();
            due(text.toString(), Due.read(x, text.toString()), 1);
            for (int i = 0; i < 4; i++) {
                due(text + ": of " + whats[i], x.of(0, whats[i]), (set >> i & 1) == 1 ? told[i] : first[i]);
            }
        }
        for (int i = 0; i < 4; i++) {
            for (int before = 0; before <= i; before++) {
                dueFault("bent" + marks[i] + marks[before], 4 + marks[i].length() + 1);
            }
        }
    }

    /** "TEXT: ITEM { ; ITEM }". */
    private static void itemBehindItem() {
        dueFault(";", 0);
        dueFault(";big", 0);
        dueFault("big;;small", 4);
        dueFault("big ; ; small", 6);
        dueFault("big small", 4);
        dueFault("rain 1 gust 1", 7);
        dueFault("left 1 1 right 1 1", 9);
        dueFault("roof 1 roof 2", 7);
        dueFault("7;big", 0);
        dueFault("at 1", 0);
        dueFault("ribs 1", 0);
        dueFault("habit 1", 0);
        dueFault("big rain 1", 4);
    }

    /** Each byte 0 to 255 as the first, behind an ITEM, where a NUMBER is due, and behind a NUMBER. */
    private static void everyByte() {
        for (int b = 0; b <= 255; b++) {
            char c = (char) b;
            boolean blank = b == ' ';
            boolean letter = b >= 'a' && b <= 'z';
            boolean digit = b >= '0' && b <= '9';
            dueFault(String.valueOf(c), blank ? 1 : 0);
            dueText(c + "rain 5", blank ? 1 : -1);
            dueText("big" + c, blank ? 1 : b == ';' ? -5 : letter ? -1 : -4);
            dueText("rain " + c, digit ? 1 : blank ? -7 : -6);
            dueText("rain 5" + c, digit || blank ? 1 : b == ';' ? -8 : -7);
            dueText("rain 5" + c + "gust 5", b == ';' ? 2 : blank || digit ? -8 : -7);
        }
    }

    /** "the WORD of a 9th UMBRELLA: its own". */
    private static void ninthUmbrella() {
        for (int there = 0; there <= 8; there++) {
            InsideOut x = new InsideOut();
            for (int u = 0; u < there; u++) {
                x.umbrella(0);
            }
            StringBuilder text = new StringBuilder("rain 1");
            for (int u = there; u < 8; u++) {
                text.append(";big");
            }
            int all = 9 - there;
            due("up to eight from " + there, Due.read(x, text.toString()), all);
            due("UMBRELLAS", x.count(1), 8);
            x = new InsideOut();
            for (int u = 0; u < there; u++) {
                x.umbrella(0);
            }
            int place = text.length() + 2;
            due("up to nine from " + there, Due.read(x, text + "; golf at 99"), -1 - place);
            due("UMBRELLAS stay", x.count(1), there);
            due("RAIN stays", x.weather(0, 8), 8);
            due("no FULL", x.status(-1), 0);
        }
    }

    /** "the first TOKEN that can't stand there". */
    private static void firstFaultCounts() {
        dueFault("rain 100;gust 100", 5);
        dueFault("big at 17 ribs 9", 7);
        dueFault("big at 16 ribs 9 held 4", 15);
        dueFault("hat;big at 99", 0);
        dueFault("left 16 100", 5);
        dueFault("rain 5#;x", 6);
    }

    /** "THE TAPE is a TEXT, and empty then"; with a FAULT nothing else changes. */
    private static void tapeIsEmptyThen() {
        InsideOut x = new InsideOut();
        due("a TEXT", Due.read(x, "big;left 3 44;roof 3;rain 1;gust 2"), 5);
        due("the TAPE is empty", x.wipe(), 0);
        due("text() of it", x.text(), -1);
        due("a FAULT behind all kinds of ITEMS", Due.read(x, "golf;right 3 55;open 3;roof 4;rain 3;gust 4;x"), -45);
        due("the TAPE is empty", x.wipe(), 0);
        due("UMBRELLAS", x.count(1), 1);
        due("FROM", x.stepOf(3, 0), 0);
        due("STRENGTH", x.stepOf(3, 1), 44);
        due("ROOFS", x.now(5), 8);
        due("RAIN", x.weather(0, 9), 1);
        due("GUST", x.weather(1, 9), 2);
        due("the next UMBRELLA is a new one", x.umbrella(2), 1);
        due("its KIND", x.of(1, 0), 2);
        due("findings", x.status(-1), 0);
    }

    /** Each beginning of a long text, and each with one byte more, fewer or another: as the model reads it. */
    private static void sweep() {
        String signs = " ;019abegilmrtuz#A/:`{\0\u00ff";
        for (int at = 0; at <= LONG_TEXT.length(); at++) {
            String before = LONG_TEXT.substring(0, at);
            String behind = LONG_TEXT.substring(at);
            likeModel(before);
            likeModel(behind);
            for (int i = 0; i < signs.length(); i++) {
                likeModel(before + signs.charAt(i) + behind);
                if (!behind.isEmpty()) {
                    likeModel(before + signs.charAt(i) + behind.substring(1));
                }
            }
            if (!behind.isEmpty()) {
                likeModel(before + behind.substring(1));
            }
        }
    }

    private static void likeModel(String text) {
        InsideOut x = new InsideOut();
        Model model = new Model();
        for (int i = 0; i < text.length(); i++) {
            x.feed(text.charAt(i), 1);
            model.feed(text.charAt(i), 1);
        }
        due("text '" + text + "'", x.text(), model.text());
        due("UMBRELLAS behind '" + text + "'", x.count(1), model.count(1));
        for (int u = 0; u < x.count(1); u++) {
            for (int what = 0; what <= 4; what++) {
                due("of behind '" + text + "'", x.of(u, what), model.of(u, what));
            }
        }
        for (int step = 0; step < 16; step += 15) {
            for (int what = 0; what <= 2; what++) {
                due("stepOf behind '" + text + "'", x.stepOf(step, what), model.stepOf(step, what));
            }
        }
        due("RAIN behind '" + text + "'", x.weather(0, 0), model.weather(0, 0));
        due("GUST behind '" + text + "'", x.weather(1, 0), model.weather(1, 0));
    }
}
