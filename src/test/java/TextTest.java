/** Promises 28 to 30: the tape and the texts on it. */
public final class TextTest {
    private static final long BEYOND = Due.BEYOND;

    public static void main(String[] args) {
        feed();
        feedFull();
        wipe();
        umbrellas();
        street();
        order();
        tokens();
        faults();
        nothingChangesByFaults();
        ninth();
        Due.end();
    }

    private static void due(String call, long got, long want) {
        Due.due(call, got, want);
    }

    private static void feed() {
        InsideOut x = new InsideOut();
        int[] beyond = {0, -1, 5, Integer.MIN_VALUE, Integer.MAX_VALUE};
        for (int n : beyond) {
            due("feed(0, " + n + ")", x.feed(0, n), BEYOND);
        }
        due("status(0)", x.status(0), beyond.length);
        // the n lowest bytes, the highest of these first: "ra", "in", " 77"
        due("feed 2", x.feed(0x11227261, 2), 2);
        due("feed 2", x.feed(0x696e, 2), 4);
        due("feed 3", x.feed(0xff203737, 3), 7);
        due("count(5)", x.count(5), 7);
        due("text", x.text(), 1);
        due("count(5)", x.count(5), 0);
        due("RAIN", x.weather(0, 8), 77);
        due("feed 4", x.feed(0x80706f65, 4), 4);
        due("a byte of 128", x.text(), -1);
    }

    private static void feedFull() {
        InsideOut x = new InsideOut();
        for (int i = 1; i <= 29; i++) {
            due("feed", x.feed(0x20202020, 4), 4 * i);
        }
        due("feed 3", x.feed(0x202020, 3), 119);
        due("feed 2, one too many", x.feed(0x2020, 2), Due.FULL);
        due("feed 5, beyond before full", x.feed(0, 5), BEYOND);
        due("feed 1", x.feed(0x20, 1), 120);
        due("feed 1, one too many", x.feed(0x20, 1), Due.FULL);
        due("feed 0, beyond before full", x.feed(0, 0), BEYOND);
        due("count(5)", x.count(5), 120);
        due("status(1)", x.status(1), 2);
        due("text of blanks", x.text(), -121);
        due("count(5)", x.count(5), 0);
    }

    private static void wipe() {
        InsideOut x = new InsideOut();
        due("wipe()", x.wipe(), 0);
        Due.feed(x, "rain 1");
        due("wipe()", x.wipe(), 6);
        due("wipe()", x.wipe(), 0);
        due("text()", x.text(), -1);
        due("RAIN", x.weather(0, 8), 8);
    }

    private static void dueMarks(InsideOut x, int u, int kind, int at, int ribs, int held, int habit) {
        due("KIND of " + u, x.of(u, 0), kind);
        due("AT of " + u, x.of(u, 1), at);
        due("RIBS of " + u, x.of(u, 4), ribs);
        due("HELD of " + u, x.of(u, 2), held);
        due("HABIT of " + u, x.of(u, 3), habit);
        due("OUT of " + u, x.of(u, 5), 0);
        due("TURNED of " + u, x.of(u, 6), 0);
        due("WET of " + u, x.of(u, 7), 0);
    }

    private static void umbrellas() {
        InsideOut x = new InsideOut();
        due("kinds", Due.read(x, "umbrella;big;small;bent;binned;paper;golf"), 7);
        for (int u = 0; u < 7; u++) {
            dueMarks(x, u, u, 0, 8, 0, 0);
        }
        x = new InsideOut();
        due("marks", Due.read(x, "umbrella at 16 ribs 0 held 3 habit 3;golf at 3;bent ribs 4;big held 2;small habit 1"), 5);
        dueMarks(x, 0, 0, 16, 0, 3, 3);
        dueMarks(x, 1, 6, 3, 8, 0, 0);
        dueMarks(x, 2, 3, 0, 4, 0, 0);
        dueMarks(x, 3, 1, 0, 8, 2, 0);
        dueMarks(x, 4, 2, 0, 8, 0, 1);
        due("behind those", Due.read(x, "paper at 1 held 1;binned ribs 8 habit 2"), 2);
        dueMarks(x, 5, 5, 1, 8, 1, 0);
        dueMarks(x, 6, 4, 0, 8, 0, 2);
    }

    private static void dueStep(InsideOut x, int step, int from, int strength, int roof) {
        due("FROM of " + step, x.stepOf(step, 0), from);
        due("STRENGTH of " + step, x.stepOf(step, 1), strength);
        due("ROOF of " + step, x.stepOf(step, 2), roof);
    }

    private static void street() {
        InsideOut x = new InsideOut();
        x.step(4, 0, 2);
        x.step(6, 2, 1);
        due("street", Due.read(x, "left 4 99;right 15 0;below 0 50;roof 3;open 6;rain 99;gust 0"), 7);
        dueStep(x, 4, 0, 99, 0);
        dueStep(x, 15, 1, 0, 0);
        dueStep(x, 0, 2, 50, 0);
        dueStep(x, 3, 0, 10, 1);
        dueStep(x, 6, 0, 10, 0);
        due("RAIN", x.weather(0, 8), 99);
        due("GUST", x.weather(1, 20), 0);
        due("no finding", x.status(-1), 0);
    }

    private static void order() {
        InsideOut x = new InsideOut();
        due("order", Due.read(x, "roof 1;open 1;open 2;roof 2;rain 1;rain 2;left 3 4;right 3 5;left 3 6"), 9);
        dueStep(x, 1, 0, 10, 0);
        dueStep(x, 2, 0, 10, 1);
        dueStep(x, 3, 0, 6, 0);
        due("RAIN", x.weather(0, 8), 2);
    }

    private static void tokens() {
        InsideOut x = new InsideOut();
        due("close together", Due.read(x, "big at16ribs0held3habit2;rain7"), 2);
        dueMarks(x, 0, 1, 16, 0, 3, 2);
        due("far apart", Due.read(x, "   small   at   5   ;   gust   007   "), 2);
        dueMarks(x, 1, 2, 5, 8, 0, 0);
        due("GUST", x.weather(1, 20), 7);
        due("many digits", Due.read(x, "rain 0000000000000000000000000000000000000042"), 1);
        due("RAIN", x.weather(0, 8), 42);
        due("words as long as can be", Due.read(x, "bigat 3"), -1);
        due("numbers as long as can be", Due.read(x, "left 1 2 3"), -10);
        due("no blank needed before ;", Due.read(x, "open 1;open 2"), 2);
    }

    private static void faults() {
        String[][] rows = {
            {"", "0"}, {" ", "1"}, {"   ", "3"},
            {"x", "0"}, {"  bigs", "2"}, {"Big", "0"}, {"7", "0"}, {";", "0"}, {"at 3", "0"},
            {"big;", "4"}, {"big; ", "5"}, {"big;;big", "4"}, {"big big", "4"}, {"big 7", "4"}, {"bigA", "3"},
            {"big,small", "3"}, {"big\tat 1", "3"}, {"big\n", "3"},
            {"big at", "6"}, {"big at ", "7"}, {"big at 17", "7"}, {"big at 16;", "10"}, {"big at at", "7"},
            {"big at;", "6"}, {"big at 1000", "7"}, {"big at 99999999999999999999", "7"}, {"big at -1", "7"},
            {"big at 1 at 2", "9"}, {"big ribs 9", "9"}, {"big ribs 8 at 1", "11"}, {"big held 4", "9"},
            {"big held 3 ribs 1", "11"}, {"big habit 4", "10"}, {"big habit 1 held 1", "12"},
            {"big habit 1 1", "12"}, {"big habit", "9"}, {"big rain 3", "4"},
            {"left", "4"}, {"left 3", "6"}, {"left 16 0", "5"}, {"left 15 100", "8"}, {"left 1;", "6"},
            {"left 1 left", "7"}, {"right 16 1", "6"}, {"below 0 1 2", "10"}, {"below x", "6"},
            {"roof", "4"}, {"roof 16", "5"}, {"roof 1 1", "7"}, {"roof roof", "5"}, {"open 16", "5"}, {"open", "4"},
            {"rain 100", "5"}, {"rain", "4"}, {"rain 1 big", "7"}, {"gust 100", "5"}, {"gust;", "4"},
            {"rain 4294967295", "5"}, {"rain 18446744073709551616", "5"}, {"rain 5;rain 100", "12"},
            {"umbrellas", "0"}, {"umbrell", "0"}, {"golf;roofs 3", "5"}, {"rain 5#", "6"}, {"#", "0"},
            {"bigz", "0"}, {"zbig", "0"}, {"big{", "3"}, {"big`", "3"}, {"rain 5:", "6"}, {"rain 5/", "6"},
            {"rain /", "5"}, {"big\0", "3"}, {"big;\0", "4"}, {"\0", "0"}, {"rain 9 9", "7"}, {"big\u00ff", "3"},
        };
        for (String[] row : rows) {
            InsideOut x = new InsideOut();
            due("text '" + row[0] + "'", Due.read(x, row[0]), -1 - Integer.parseInt(row[1]));
            due("TAPE behind '" + row[0] + "'", x.count(5), 0);
            due("UMBRELLAS behind '" + row[0] + "'", x.count(1), 0);
            due("RAIN behind '" + row[0] + "'", x.weather(0, 8), 8);
            due("findings behind '" + row[0] + "'", x.status(-1), 0);
        }
    }

    private static void nothingChangesByFaults() {
        InsideOut x = new InsideOut();
        due("a late fault", Due.read(x, "big at 3;left 0 50;right 1 60;roof 4;rain 3;gust 4;open"), -56);
        due("UMBRELLAS", x.count(1), 0);
        dueStep(x, 0, 0, 10, 0);
        dueStep(x, 1, 0, 10, 0);
        dueStep(x, 4, 0, 10, 0);
        due("RAIN", x.weather(0, 8), 8);
        due("GUST", x.weather(1, 20), 20);
        due("umbrella(3)", x.umbrella(3), 0);
        dueMarks(x, 0, 3, 0, 8, 0, 0);
    }

    private static void ninth() {
        InsideOut x = new InsideOut();
        due("eight", Due.read(x, "big;big;big;big;big;big;big;big"), 8);
        due("a ninth", Due.read(x, "rain 3; golf at 99"), -9);
        due("RAIN", x.weather(0, 8), 8);
        due("no ninth", Due.read(x, "rain 3"), 1);
        x = new InsideOut();
        due("nine", Due.read(x, "big;big;big;big;big;big;big;big;big"), -33);
        due("UMBRELLAS", x.count(1), 0);
        for (int u = 0; u < 7; u++) {
            x.umbrella(0);
        }
        due("two more than seven", Due.read(x, "big; small"), -6);
        due("UMBRELLAS", x.count(1), 7);
        due("one more than seven", Due.read(x, "big"), 1);
        due("UMBRELLAS", x.count(1), 8);
        due("no finding", x.status(-1), 0);
    }
}
