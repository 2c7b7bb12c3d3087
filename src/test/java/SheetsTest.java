/** Promises 31 to 37: spots and sheets. */
public final class SheetsTest {
    private static final long BEYOND = Due.BEYOND;
    private static final long MISSING = Due.MISSING;
    private static final int MIN = Integer.MIN_VALUE;
    private static final int MAX = Integer.MAX_VALUE;
    private static final int[] NO_SHEETS = {-1, 4, MIN, MAX};

    public static void main(String[] args) {
        hold();
        as();
        asFindings();
        sheet();
        write();
        copy();
        copyFindings();
        load();
        judge();
        Due.end();
    }

    private static void due(String call, long got, long want) {
        Due.due(call, got, want);
    }

    private static void hold() {
        InsideOut x = Due.from("umbrella;big");
        due("hold(0, 0)", x.hold(0, 0), 1);
        due("hold(9, 1)", x.hold(9, 1), 1);
        due("hold(5, 1)", x.hold(5, 1), 1);
        due("count(7)", x.count(7), 3);
        due("hold(5, -1)", x.hold(5, -1), 1);
        due("hold(4, -1)", x.hold(4, -1), 1);
        due("count(7)", x.count(7), 2);
        int[][] beyond = {{-1, 0}, {10, 0}, {MIN, -1}, {MAX, -1}, {0, -2}, {0, 2}, {0, 8}, {0, MIN}, {0, MAX}};
        for (int[] a : beyond) {
            due("hold beyond", x.hold(a[0], a[1]), BEYOND);
        }
        due("status(0)", x.status(0), beyond.length);
        due("as(0, 0)", x.as(0, 0), 0);
        due("as(9, 1)", x.as(9, 1), 1);
        due("hold(0, 1)", x.hold(0, 1), 1);
        due("as(0, 0)", x.as(0, 0), 1);
    }

    private static void as() {
        String[] above = {"0", "01", "02", "023", "0234", "05", "016"};
        InsideOut x = Due.from("umbrella", "umbrella");
        x.hold(3, 1);
        for (int kind = 0; kind <= 6; kind++) {
            x.change(1, 0, kind);
            for (int asked = 0; asked <= 6; asked++) {
                boolean is = above[kind].indexOf('0' + asked) >= 0;
                due("kind " + kind + " as " + asked, x.as(3, asked), is ? 1 : Due.KIND);
            }
        }
        due("status(2)", x.status(2), 49 - 17);
    }

    private static void asFindings() {
        InsideOut x = Due.from("paper");
        x.hold(0, 0);
        int[][] beyond = {{-1, 0}, {10, 0}, {0, -1}, {0, 7}, {1, 7}, {1, -1}, {MIN, 0}, {0, MAX}};
        for (int[] a : beyond) {
            due("as beyond", x.as(a[0], a[1]), BEYOND);
        }
        due("as(1, 0)", x.as(1, 0), MISSING);
        due("as(0, 1)", x.as(0, 1), Due.KIND);
        x.hold(0, -1);
        due("as(0, 1)", x.as(0, 1), MISSING);
        due("status(0)", x.status(0), beyond.length);
        due("status(5)", x.status(5), 2);
        due("status(2)", x.status(2), 1);
    }

    private static void sheet() {
        InsideOut x = new InsideOut();
        due("sheet(0, 8, 40)", x.sheet(0, 8, 40), 40);
        due("sheet(3, 16, 0)", x.sheet(3, 16, 0), 0);
        due("sheet(2, 32, 1)", x.sheet(2, 32, 1), 1);
        due("sheet(2, 0, 7)", x.sheet(2, 0, 7), 0);
        due("it is MISSING", x.write(2, 0, 0), MISSING);
        for (int s : NO_SHEETS) {
            due("no such sheet", x.sheet(s, 8, 1), BEYOND);
            due("no such sheet, before SIZE", x.sheet(s, 8, -1), BEYOND);
        }
        int[] noBits = {-1, 1, 7, 9, 24, 64, MIN, MAX};
        for (int bits : noBits) {
            due("other bits", x.sheet(0, bits, 1), BEYOND);
            due("other bits, before SIZE", x.sheet(0, bits, -1), BEYOND);
        }
        due("sheet(0, 8, -1)", x.sheet(0, 8, -1), Due.SIZE);
        due("sheet(0, 0, -1)", x.sheet(0, 0, -1), Due.SIZE);
        due("sheet(0, 32, MIN)", x.sheet(0, 32, MIN), Due.SIZE);
        due("sheet(0, 8, 41)", x.sheet(0, 8, 41), BEYOND);
        due("sheet(0, 0, 41)", x.sheet(0, 0, 41), BEYOND);
        due("sheet(0, 8, MAX)", x.sheet(0, 8, MAX), BEYOND);
        due("it stays", x.write(0, 39, 10), 1);
        due("status(6)", x.status(6), 3);
        due("made anew", x.sheet(0, 8, 40), 40);
        due("all are 0", x.load(0), 16);
        due("STRENGTH", x.stepOf(0, 1), 0);
        x.write(0, 0, 9);
        due("made smaller", x.sheet(0, 8, 1), 1);
        x.load(0);
        due("it is 0 again", x.stepOf(0, 1), 0);
        due("there is no other", x.write(0, 1, 0), BEYOND);
    }

    private static void write() {
        InsideOut x = new InsideOut();
        for (int s : NO_SHEETS) {
            due("no such sheet", x.write(s, 0, 0), BEYOND);
        }
        due("MISSING before BEYOND", x.write(1, -1, 0), MISSING);
        x.sheet(1, 8, 3);
        int[] noNumbers = {-1, 3, 40, MIN, MAX};
        for (int i : noNumbers) {
            due("no such number", x.write(1, i, 0), BEYOND);
        }
        due("write", x.write(1, 0, 256 + 45), 1);
        due("write", x.write(1, 1, 511), 1);
        due("lowest 8 bits, and those with a sign", x.load(1), 1);
        due("STRENGTH", x.stepOf(0, 1), 45);
        x.sheet(1, 16, 2);
        x.write(1, 0, 65536 + 46);
        x.write(1, 1, 301);
        due("lowest 16 bits", x.load(1), 1);
        due("STRENGTH", x.stepOf(0, 1), 46);
        x.sheet(1, 32, 1);
        x.write(1, 0, 65536 + 46);
        due("all 32 bits", x.load(1), 0);
        due("status(0)", x.status(0), NO_SHEETS.length + noNumbers.length);
    }

    private static void numbers(InsideOut x, int s, int bits, int... numbers) {
        x.sheet(s, bits, numbers.length);
        for (int i = 0; i < numbers.length; i++) {
            x.write(s, i, numbers[i]);
        }
    }

    private static void dueNumbers(InsideOut x, int s, int... want) {
        due("load(" + s + ")", x.load(s), want.length);
        for (int i = 0; i < want.length; i++) {
            due("number " + i + " of sheet " + s, x.stepOf(i, 1), want[i]);
        }
    }

    private static void copy() {
        InsideOut x = new InsideOut();
        numbers(x, 0, 8, 1, 2, 3, 4, 5);
        numbers(x, 1, 8, 11, 12, 13, 14);
        due("copy", x.copy(0, 1, 1, 2, 2), 2);
        dueNumbers(x, 1, 11, 12, 2, 3);
        dueNumbers(x, 0, 1, 2, 3, 4, 5);
        due("copy forwards in itself", x.copy(0, 0, 0, 1, 4), 4);
        dueNumbers(x, 0, 1, 1, 2, 3, 4);
        due("copy backwards in itself", x.copy(0, 1, 0, 0, 4), 4);
        dueNumbers(x, 0, 1, 2, 3, 4, 4);
        due("copy all", x.copy(1, 0, 0, 0, 4), 4);
        dueNumbers(x, 0, 11, 12, 2, 3, 4);
        due("copy none", x.copy(1, 4, 0, 5, 0), 0);
    }

    private static void copyFindings() {
        InsideOut x = new InsideOut();
        numbers(x, 0, 8, 1, 2, 3);
        numbers(x, 1, 16, 1, 2, 3);
        numbers(x, 2, 8, 4, 5);
        for (int s : NO_SHEETS) {
            due("no such sheet", x.copy(s, 0, 3, 0, 1), BEYOND);
            due("no such sheet", x.copy(3, 0, s, 0, 1), BEYOND);
        }
        due("MISSING, the second", x.copy(1, 0, 3, 0, -1), MISSING);
        due("MISSING, the first", x.copy(3, 0, 1, 0, -1), MISSING);
        due("MISSING, both", x.copy(3, 0, 3, 0, 0), MISSING);
        due("KIND", x.copy(0, -1, 1, 0, 1), Due.KIND);
        due("KIND", x.copy(1, 0, 2, 0, 0), Due.KIND);
        int[][] beyond = {
            {0, 2, 0, 2}, {0, 0, 0, 3}, {0, 1, 2, 3}, {0, 4, 0, 0}, {0, 0, 3, 0}, {0, 0, 1, 2},
            {0, -1, 0, 1}, {0, 0, -1, 1}, {0, 0, 0, -1}, {0, MAX, 0, 1}, {0, 0, MAX, 1}, {0, 0, 0, MAX},
            {0, MIN, 0, MIN}, {0, MAX, 0, MAX}, {0, 1, 1, MAX}, {0, MIN, 0, MAX}, {0, -1, 0, MAX},
        };
        for (int[] a : beyond) {
            due("copy beyond", x.copy(a[0], a[1], 2, a[2], a[3]), BEYOND);
        }
        dueNumbers(x, 2, 4, 5);
        due("status(0)", x.status(0), 2 * NO_SHEETS.length + beyond.length);
        due("status(2)", x.status(2), 2);
        due("status(5)", x.status(5), 3);
    }

    private static void load() {
        InsideOut x = new InsideOut();
        for (int s : NO_SHEETS) {
            due("no such sheet", x.load(s), BEYOND);
        }
        due("MISSING", x.load(0), MISSING);
        x.sheet(0, 8, 0);
        due("an empty one", x.load(0), 0);
        numbers(x, 0, 8, 0, 99, 100, 7);
        due("up to 100", x.load(0), 2);
        due("STRENGTH of 0", x.stepOf(0, 1), 0);
        due("STRENGTH of 1", x.stepOf(1, 1), 99);
        due("STRENGTH of 2", x.stepOf(2, 1), 10);
        due("STRENGTH of 3", x.stepOf(3, 1), 10);
        numbers(x, 0, 8, 5, -1, 7);
        due("up to -1", x.load(0), 1);
        numbers(x, 0, 8, 1, 2, 3, 4, 5, 6, 7, 8, 9, 10, 11, 12, 13, 14, 15, 16, 17, 18);
        due("more than there are steps", x.load(0), 16);
        due("STRENGTH of 15", x.stepOf(15, 1), 16);
    }

    private static void judge() {
        InsideOut x = new InsideOut();
        for (int s : NO_SHEETS) {
            due("no such sheet", x.judge(s), BEYOND);
        }
        due("MISSING", x.judge(0), MISSING);
        x.sheet(0, 8, 0);
        due("an empty one", x.judge(0), 0);
        numbers(x, 0, 8, 10, 10, 10);
        due("so", x.judge(0), 0);
        x.write(0, 2, 11);
        due("the last isn't so", x.judge(0), 3);
        x.write(0, 0, -1);
        due("the first isn't so", x.judge(0), 1);
        x.step(1, 2, 1);
        x.step(2, 1, 15);
        x.go(2);
        numbers(x, 0, 8, 30, 15, 35);
        due("WIND with a gust and a roof", x.judge(0), 0);
        x.go(1);
        due("WIND without the gust", x.judge(0), 1);
        x = new InsideOut();
        numbers(x, 3, 16, 10, 10, 10, 10, 10, 10, 10, 10, 10, 10, 10, 10, 10, 10, 10, 10);
        due("all sixteen", x.judge(3), 0);
        numbers(x, 3, 16, 10, 10, 10, 10, 10, 10, 10, 10, 10, 10, 10, 10, 10, 10, 10, 10, 10);
        due("there is no such step", x.judge(3), 17);
    }
}
