/** Promises 31 to 42: the edges of spots, sheets, images and counts. */
public final class KeptEdgesTest {
    private static final long BEYOND = Due.BEYOND;
    private static final long MISSING = Due.MISSING;
    private static final int MIN = Integer.MIN_VALUE;
    private static final int MAX = Integer.MAX_VALUE;

    public static void main(String[] args) {
        spotsEmptyAndFull();
        spotsHoldOneTwice();
        asNowNotThen();
        kindsUnderKinds();
        missingSheets();
        sheetsOfNoNumbers();
        sheetsOfForty();
        sheetsMadeAnew();
        sheetsApart();
        lowestBits();
        copyOfNone();
        copyOfAll();
        copyIntoItself();
        copyByBits();
        loadEndsAtTheFirst();
        loadOfMoreThanSteps();
        judgeEnds();
        judgeByWind();
        judgeOfMoreThanSteps();
        imageOfANewObject();
        imageKeepsEach();
        imageKeepsNot();
        undoStays();
        tearAndImageAgain();
        undoOfUmbrellas();
        countsEmptyAndFull();
        statusCounts();
        Due.end();
    }

    private static void due(String call, long got, long want) {
        Due.due(call, got, want);
    }

    /** Promise 31: "A SPOT holds an UMBRELLA, or nothing (-1): 1". */
    private static void spotsEmptyAndFull() {
        InsideOut x = Due.from("umbrella;big");
        for (int spot = 0; spot < 10; spot++) {
            due("nothing at first", x.as(spot, 0), MISSING);
            due("nothing again", x.hold(spot, -1), 1);
            due("SPOTS that hold something", x.count(7), spot);
            due("hold", x.hold(spot, spot % 2), 1);
            due("held", x.as(spot, 0), spot % 2);
        }
        due("all hold something", x.count(7), 10);
        for (int spot = 0; spot < 10; spot++) {
            due("hold nothing", x.hold(spot, -1), 1);
            due("it holds nothing", x.as(spot, 0), MISSING);
            due("SPOTS that hold something", x.count(7), 9 - spot);
        }
    }

    private static void spotsHoldOneTwice() {
        InsideOut x = Due.from("umbrella;big");
        due("hold", x.hold(0, 1), 1);
        due("hold the same", x.hold(0, 1), 1);
        due("hold it in another", x.hold(9, 1), 1);
        due("both hold it", x.count(7), 2);
        due("hold another", x.hold(0, 0), 1);
        due("the first", x.as(0, 0), 0);
        due("the other stays", x.as(9, 0), 1);
    }

    /** Promise 32: by the KIND that it is of now. */
    private static void asNowNotThen() {
        InsideOut x = Due.from("binned");
        x.hold(3, 0);
        due("as a BENT", x.as(3, 3), 0);
        x.change(0, 0, 6);
        due("no BENT any more", x.as(3, 3), Due.KIND);
        due("a BIG now", x.as(3, 1), 0);
    }

    /** "KIND: it isn't of that kind, nor of one under it", for each KIND as each. */
    private static void kindsUnderKinds() {
        String[] rows = {"1000000", "1100000", "1010000", "1011000", "1011100", "1000010", "1100001"};
        InsideOut x = Due.from("umbrella;umbrella");
        x.hold(5, 1);
        for (int kind = 0; kind <= 6; kind++) {
            x.change(1, 0, kind);
            for (int as = 0; as <= 6; as++) {
                due("KIND " + kind + " as " + as, x.as(5, as), rows[kind].charAt(as) == '1' ? 1 : Due.KIND);
            }
        }
    }

    /** A SHEET that is MISSING: at first, and made so. */
    private static void missingSheets() {
        InsideOut x = Due.from("umbrella");
        x.sheet(3, 8, 1);
        for (int again = 0; again <= 1; again++) {
            due("fits", x.fits(0, 0), MISSING);
            due("kinds", x.kinds(0, 0), MISSING);
            due("write", x.write(0, 0, 0), MISSING);
            due("copy from it", x.copy(0, 0, 3, 0, 0), MISSING);
            due("copy to it", x.copy(3, 0, 0, 0, 0), MISSING);
            due("copy from it to it", x.copy(0, 0, 0, 0, 0), MISSING);
            due("load", x.load(0), MISSING);
            due("judge", x.judge(0), MISSING);
            due("made", x.sheet(0, 32, 40), 40);
            due("and MISSING again: 0, whatever n", x.sheet(0, 0, 40), 0);
        }
        due("MISSING once more", x.sheet(0, 0, 0), 0);
        due("status(5)", x.status(5), 16);
    }

    /** A SHEET of no numbers isn't MISSING. */
    private static void sheetsOfNoNumbers() {
        for (int bits = 8; bits <= 32; bits *= 2) {
            InsideOut x = Due.from("umbrella");
            due("sheet", x.sheet(2, bits, 0), 0);
            due("fits", x.fits(2, 0), 15);
            due("kinds", x.kinds(2, 0), 127);
            due("write", x.write(2, 0, 0), BEYOND);
            due("copy none", x.copy(2, 0, 2, 0, 0), 0);
            due("copy one", x.copy(2, 0, 2, 0, 1), BEYOND);
            due("copy none from 1 on", x.copy(2, 1, 2, 0, 0), BEYOND);
            due("copy none to 1 on", x.copy(2, 0, 2, 1, 0), BEYOND);
            due("load", x.load(2), 0);
            due("judge", x.judge(2), 0);
            due("status(-1)", x.status(-1), 4);
        }
    }

    private static void sheetsOfForty() {
        for (int bits = 8; bits <= 32; bits *= 2) {
            InsideOut x = new InsideOut();
            due("sheet", x.sheet(1, bits, 40), 40);
            due("the first", x.write(1, 0, 1), 1);
            due("the last", x.write(1, 39, 2), 1);
            due("behind the last", x.write(1, 40, 3), BEYOND);
            due("ahead of the first", x.write(1, -1, 3), BEYOND);
            due("load", x.load(1), 16);
            due("one more than 40", x.sheet(1, bits, 41), BEYOND);
            due("the last is there still", x.copy(1, 39, 1, 0, 1), 1);
            due("load", x.load(1), 16);
            due("it is as it was", x.stepOf(0, 1), 2);
        }
    }

    /** Promise 33: "A sheet has n numbers, all 0". */
    private static void sheetsMadeAnew() {
        InsideOut x = new InsideOut();
        x.sheet(0, 8, 3);
        x.write(0, 0, 5);
        x.write(0, 2, 7);
        due("more numbers", x.sheet(0, 8, 4), 4);
        dueLoaded(x, 0, 0, 0, 0, 0);
        x.write(0, 0, 5);
        x.write(0, 3, 7);
        due("fewer numbers", x.sheet(0, 8, 2), 2);
        dueLoaded(x, 0, 0, 0);
        due("more again", x.sheet(0, 8, 4), 4);
        dueLoaded(x, 0, 0, 0, 0, 0);
        x.write(0, 1, 6);
        due("other bits", x.sheet(0, 16, 2), 2);
        dueLoaded(x, 0, 0, 0);
        x.write(0, 1, 6);
        due("MISSING", x.sheet(0, 0, 2), 0);
        due("and there again", x.sheet(0, 16, 2), 2);
        dueLoaded(x, 0, 0, 0);
    }

    private static void sheetsApart() {
        InsideOut x = new InsideOut();
        for (int s = 0; s < 4; s++) {
            x.sheet(s, 8, 2);
        }
        for (int s = 0; s < 4; s++) {
            x.write(s, 0, 10 + s);
            x.write(s, 1, 20 + s);
        }
        for (int s = 0; s < 4; s++) {
            dueLoaded(x, s, 10 + s, 20 + s);
        }
        x.sheet(1, 0, 0);
        dueLoaded(x, 0, 10, 20);
        dueLoaded(x, 2, 12, 22);
        due("load of the MISSING", x.load(1), MISSING);
    }

    /** All numbers of a sheet, which are 0 to 99 and 16 at most. */
    private static void dueLoaded(InsideOut x, int s, int... want) {
        due("load(" + s + ")", x.load(s), want.length);
        for (int i = 0; i < want.length; i++) {
            due("number " + i + " of sheet " + s, x.stepOf(i, 1), want[i]);
        }
    }

    /** Promise 34: "becomes v (its lowest bits)": those above are dropped, the highest of them is the sign. */
    private static void lowestBits() {
        int[][] rows = {
            // bits, v, STRENGTH that load makes of it, or -1 where it isn't 0 to 99
            {8, 0, 0}, {8, 99, 99}, {8, 100, -1}, {8, 127, -1}, {8, 128, -1}, {8, 255, -1}, {8, 256, 0}, {8, 257, 1},
            {8, 256 + 99, 99}, {8, 256 + 100, -1}, {8, -1, -1}, {8, -156, -1}, {8, -157, 99}, {8, -256, 0}, {8, MIN, 0},
            {8, MAX, -1}, {8, 65536 + 7, 7}, {8, 0x7fffff07, 7},
            {16, 99, 99}, {16, 256, -1}, {16, 257, -1}, {16, 32767, -1}, {16, 32768, -1}, {16, 65535, -1}, {16, 65536, 0},
            {16, 65536 + 99, 99}, {16, -65536, 0}, {16, -65437, 99}, {16, MIN, 0}, {16, MAX, -1}, {16, 0x7fff0007, 7},
            {32, 99, 99}, {32, 256, -1}, {32, 65536, -1}, {32, 65536 + 99, -1}, {32, MIN, -1}, {32, MAX, -1}, {32, -1, -1},
        };
        for (int[] row : rows) {
            InsideOut x = new InsideOut();
            x.sheet(0, row[0], 1);
            due("write", x.write(0, 0, row[1]), 1);
            due(row[0] + " bits of " + row[1], x.load(0), row[2] < 0 ? 0 : 1);
            due(row[0] + " bits of " + row[1], x.stepOf(0, 1), row[2] < 0 ? 10 : row[2]);
        }
        int[][] any = {{8, -1, 15}, {8, 255, 15}, {8, 254, 0}, {8, -257, 15}, {16, 255, 0}, {16, 65535, 15}, {16, -1, 15},
            {16, -65537, 15}, {32, 255, 0}, {32, 65535, 0}, {32, -1, 15}, {32, MAX, 0}, {8, MAX, 15}, {16, MAX, 15}};
        for (int[] row : any) {
            InsideOut x = Due.from("umbrella at 3");
            x.sheet(0, row[0], 1);
            x.write(0, 0, row[1]);
            due("any: " + row[0] + " bits of " + row[1], x.fits(0, 0), row[2]);
        }
        InsideOut x = new InsideOut();
        x.go(2);
        x.step(0, 1, 99);
        x.weather(1, 99);
        x.sheet(0, 16, 1);
        x.write(0, 0, 198);
        due("16 bits hold the greatest WIND", x.judge(0), 0);
        x.sheet(0, 8, 1);
        x.write(0, 0, 198);
        due("8 bits, with a sign, don't", x.judge(0), 1);
        x.weather(1, 28);
        x.write(0, 0, 127);
        due("8 bits hold 127", x.judge(0), 0);
    }

    private static InsideOut fives() {
        InsideOut x = new InsideOut();
        for (int s = 0; s <= 1; s++) {
            x.sheet(s, 8, 5);
            for (int i = 0; i < 5; i++) {
                x.write(s, i, 10 * s + i + 1);
            }
        }
        return x;
    }

    /** Promise 35: n 0, from the first, from behind the last, and from further on. */
    private static void copyOfNone() {
        InsideOut x = fives();
        due("from 0 to 0", x.copy(0, 0, 1, 0, 0), 0);
        due("from behind the last", x.copy(0, 5, 1, 0, 0), 0);
        due("to behind the last", x.copy(0, 0, 1, 5, 0), 0);
        due("from further on", x.copy(0, 6, 1, 0, 0), BEYOND);
        due("to further on", x.copy(0, 0, 1, 6, 0), BEYOND);
        dueLoaded(x, 0, 1, 2, 3, 4, 5);
        dueLoaded(x, 1, 11, 12, 13, 14, 15);
    }

    private static void copyOfAll() {
        InsideOut x = fives();
        due("one more than all", x.copy(0, 0, 1, 0, 6), BEYOND);
        due("all from 1 on", x.copy(0, 1, 1, 0, 5), BEYOND);
        due("all to 1 on", x.copy(0, 0, 1, 1, 5), BEYOND);
        due("the last", x.copy(0, 4, 1, 0, 1), 1);
        dueLoaded(x, 1, 5, 12, 13, 14, 15);
        due("to the last", x.copy(0, 0, 1, 4, 1), 1);
        dueLoaded(x, 1, 5, 12, 13, 14, 1);
        due("all", x.copy(0, 0, 1, 0, 5), 5);
        dueLoaded(x, 1, 1, 2, 3, 4, 5);
        dueLoaded(x, 0, 1, 2, 3, 4, 5);
        due("wide numbers", x.copy(0, MAX, 1, MAX, MAX), BEYOND);
        due("wide n", x.copy(0, 3, 1, 3, MAX), BEYOND);
        due("wide numbers below 0", x.copy(0, MIN, 1, MIN, MIN), BEYOND);
        x = new InsideOut();
        x.sheet(2, 32, 40);
        x.sheet(3, 32, 40);
        x.write(2, 39, 9);
        due("all forty", x.copy(2, 0, 3, 0, 40), 40);
        due("the fortieth", x.copy(3, 39, 3, 0, 1), 1);
        x.load(3);
        due("it came", x.stepOf(0, 1), 9);
    }

    /** "(as they all were)": forwards, backwards, onto itself. */
    private static void copyIntoItself() {
        InsideOut x = fives();
        due("forwards", x.copy(0, 0, 0, 2, 3), 3);
        dueLoaded(x, 0, 1, 2, 1, 2, 3);
        x = fives();
        due("backwards", x.copy(0, 2, 0, 0, 3), 3);
        dueLoaded(x, 0, 3, 4, 5, 4, 5);
        x = fives();
        due("onto itself", x.copy(0, 0, 0, 0, 5), 5);
        dueLoaded(x, 0, 1, 2, 3, 4, 5);
        due("by one forwards", x.copy(0, 0, 0, 1, 4), 4);
        dueLoaded(x, 0, 1, 1, 2, 3, 4);
        due("by one backwards", x.copy(0, 1, 0, 0, 4), 4);
        dueLoaded(x, 0, 1, 2, 3, 4, 4);
    }

    /** "KIND: they are not of as many bits". */
    private static void copyByBits() {
        int[] bits = {8, 16, 32};
        for (int a : bits) {
            for (int b : bits) {
                InsideOut x = new InsideOut();
                x.sheet(0, a, 2);
                x.sheet(1, b, 3);
                due(a + " bits to " + b, x.copy(0, 0, 1, 0, 2), a == b ? 2 : Due.KIND);
                due("too many, " + a + " bits to " + b, x.copy(0, 0, 1, 0, 3), a == b ? BEYOND : Due.KIND);
            }
        }
    }

    /** Promise 36: "It ends at the first that isn't 0 to 99". */
    private static void loadEndsAtTheFirst() {
        for (int bad : new int[] {-1, 100, MIN, MAX}) {
            for (int place = 0; place < 16; place++) {
                InsideOut x = new InsideOut();
                x.sheet(0, 32, 20);
                for (int i = 0; i < 20; i++) {
                    x.write(0, i, i % 2 == 0 ? 99 : 0);
                }
                x.write(0, place, bad);
                due("load up to " + place, x.load(0), place);
                for (int step = 0; step < 16; step++) {
                    due("STRENGTH of " + step, x.stepOf(step, 1), step >= place ? 10 : step % 2 == 0 ? 99 : 0);
                }
            }
        }
    }

    /** "or for which there is no STEP". */
    private static void loadOfMoreThanSteps() {
        for (int n : new int[] {0, 1, 15, 16, 17, 40}) {
            InsideOut x = new InsideOut();
            x.sheet(0, 16, n);
            for (int i = 0; i < n; i++) {
                x.write(0, i, 50 + i);
            }
            due("load of " + n, x.load(0), Math.min(16, n));
            for (int step = 0; step < 16; step++) {
                due("STRENGTH of " + step, x.stepOf(step, 1), step < n ? 50 + step : 10);
            }
        }
        InsideOut x = new InsideOut();
        x.sheet(0, 16, 17);
        x.write(0, 16, -1);
        due("a bad one for which there is no STEP", x.load(0), 16);
        due("no finding", x.status(-1), 0);
    }

    /** Promise 37: "0 if so; else 1 and the place of the first that isn't so". */
    private static void judgeEnds() {
        InsideOut x = new InsideOut();
        x.sheet(0, 8, 16);
        for (int i = 15; i >= 0; i--) {
            due("not so up to " + i, x.judge(0), 1);
            x.write(0, i, 10);
        }
        due("all so", x.judge(0), 0);
        for (int i = 15; i >= 0; i--) {
            x.write(0, i, 9);
            due("the first that isn't so is " + i, x.judge(0), 1 + i);
        }
        x.write(0, 0, 11);
        due("more than it is", x.judge(0), 1);
        x.write(0, 0, -1);
        due("-1 is not any here", x.judge(0), 1);
    }

    /** "WIND of STEPS", not STRENGTH. */
    private static void judgeByWind() {
        InsideOut x = new InsideOut();
        x.step(0, 2, 1);
        x.step(1, 1, 0);
        x.sheet(0, 8, 3);
        x.write(0, 0, 5);
        x.write(0, 1, 0);
        x.write(0, 2, 10);
        due("beneath a ROOF", x.judge(0), 0);
        x.go(2);
        due("in a gust", x.judge(0), 1);
        x.write(0, 0, 15);
        due("in a gust", x.judge(0), 2);
        x.write(0, 1, 20);
        due("in a gust", x.judge(0), 3);
        x.write(0, 2, 30);
        due("in a gust", x.judge(0), 0);
    }

    /** A number for which there is no STEP is no WIND of one. */
    private static void judgeOfMoreThanSteps() {
        for (int n : new int[] {15, 16, 17, 40}) {
            InsideOut x = new InsideOut();
            x.sheet(0, 8, n);
            for (int i = 0; i < n; i++) {
                x.write(0, i, 10);
            }
            due("judge of " + n, x.judge(0), n <= 16 ? 0 : 17);
        }
    }

    /** Promises 38 to 40 at first. */
    private static void imageOfANewObject() {
        InsideOut x = new InsideOut();
        due("undo() of nothing", x.undo(), Due.NONE);
        due("tear() of nothing", x.tear(), 0);
        due("image()", x.image(), 1);
        due("undo() at once", x.undo(), 0);
        x.umbrella(0);
        x.go(3);
        due("undo()", x.undo(), 0);
        due("no UMBRELLAS", x.count(1), 0);
        due("tear()", x.tear(), 1);
        due("undo() of what was torn", x.undo(), Due.NONE);
        due("image() of it", x.image(), 1);
        due("image() again", x.image(), 1);
        due("tear()", x.tear(), 1);
        due("tear() again: but one is kept", x.tear(), 0);
    }

    /** "All but THE TAPE and SHEETS is kept": each thing changed alone comes back. */
    private static void imageKeepsEach() {
        int[][] changes = {
            {0, 1, 1}, {0, 2, 2}, {0, 3, 3}, {0, 4, 4}, {0, 5, 1}, {0, 6, 6}, {0, 7, 7}, {0, 0, 5},
        };
        for (int[] change : changes) {
            InsideOut x = Due.from("umbrella");
            int was = x.of(0, change[1]);
            x.image();
            x.change(change[0], change[1], change[2]);
            x.undo();
            due("undone, of " + change[1], x.of(0, change[1]), was);
        }
        for (int step = 0; step < 16; step++) {
            InsideOut x = new InsideOut();
            x.image();
            x.step(step, 0, 1);
            x.step(step, 1, 1);
            x.step(step, 2, 1);
            x.undo();
            due("undone, FROM", x.stepOf(step, 0), 0);
            due("undone, STRENGTH", x.stepOf(step, 1), 10);
            due("undone, ROOF", x.stepOf(step, 2), 0);
        }
        for (int spot = 0; spot < 10; spot++) {
            InsideOut x = Due.from("umbrella;big");
            x.hold(spot, 1);
            x.image();
            x.hold(spot, spot % 2 - 1);
            x.undo();
            due("undone, SPOT " + spot, x.as(spot, 1), 1);
        }
        InsideOut x = new InsideOut();
        x.seed(7);
        x.weather(0, 1);
        x.weather(1, 2);
        x.go(9);
        x.image();
        x.seed(8);
        x.weather(0, 3);
        x.weather(1, 4);
        x.go(9);
        due("undone, TICK", x.undo(), 9);
        due("undone, TICK", x.now(0), 9);
        due("undone, z", x.count(6), 7);
        due("undone, RAIN", x.weather(0, 0), 1);
        due("undone, GUST", x.weather(1, 0), 2);
    }

    /** THE TAPE, SHEETS and status() go on as they are. */
    private static void imageKeepsNot() {
        InsideOut x = new InsideOut();
        Due.feed(x, "rain");
        x.sheet(0, 8, 1);
        x.sheet(1, 8, 1);
        x.now(-1);
        x.image();
        x.feed(0x2035, 2);
        x.write(0, 0, 42);
        x.sheet(1, 0, 0);
        x.sheet(2, 8, 3);
        x.now(-1);
        x.undo();
        due("bytes", x.count(5), 6);
        due("text()", x.text(), 1);
        due("RAIN", x.weather(0, 8), 5);
        due("SHEET 0", x.load(0), 1);
        due("its number", x.stepOf(0, 1), 42);
        due("SHEET 1", x.load(1), MISSING);
        due("SHEET 2", x.load(2), 3);
        due("status(0)", x.status(0), 2);
        due("wiped", x.wipe(), 0);
        x.undo();
        due("bytes stay wiped", x.count(5), 0);
    }

    /** Promise 39: "what was kept latest (which stays)". */
    private static void undoStays() {
        InsideOut x = Due.from("umbrella");
        x.image();
        x.go(1);
        x.image();
        for (int i = 0; i < 5; i++) {
            x.go(1 + i);
            x.change(0, 7, 1000 + i);
            due("undo() to the latest", x.undo(), 1);
            due("WET", x.of(0, 7), 4);
        }
        x.go(2);
        due("an image of what was undone and went on", x.image(), 1);
        x.go(3);
        due("undo()", x.undo(), 3);
    }

    /** Promise 40: "Nothing is kept: 1 if something was, else 0". */
    private static void tearAndImageAgain() {
        InsideOut x = new InsideOut();
        for (int i = 1; i <= 3; i++) {
            x.go(1);
            due("image()", x.image(), 1);
            due("tear()", x.tear(), 1);
            due("tear()", x.tear(), 0);
            due("undo()", x.undo(), Due.NONE);
            due("TICK stays", x.now(0), i);
            due("status(3)", x.status(3), i);
        }
    }

    /** Of eight and of none: numbers are given anew. */
    private static void undoOfUmbrellas() {
        InsideOut x = new InsideOut();
        x.image();
        for (int u = 0; u < 8; u++) {
            x.umbrella(6);
            x.change(u, 1, 9);
        }
        x.undo();
        due("none", x.count(1), 0);
        due("of(0, 0)", x.of(0, 0), BEYOND);
        for (int u = 0; u < 8; u++) {
            due("umbrella(1)", x.umbrella(1), u);
            due("KIND", x.of(u, 0), 1);
            due("AT", x.of(u, 1), 0);
        }
        x.image();
        x.undo();
        due("eight", x.count(1), 8);
        due("a ninth", x.umbrella(0), Due.FULL);
        due("a text with a ninth", Due.read(x, "big"), -1);
    }

    /** Promise 41, each count at its least and at its greatest. */
    private static void countsEmptyAndFull() {
        InsideOut x = new InsideOut();
        int[] least = {0, 0, 0, 0, 0, 0, 1, 0};
        for (int what = 0; what <= 7; what++) {
            due("count(" + what + ") at first", x.count(what), least[what]);
        }
        for (int u = 0; u < 8; u++) {
            x.umbrella(0);
            x.change(u, 7, 99999);
            x.change(u, 1, 16);
        }
        for (int i = 0; i < 30; i++) {
            x.feed(0, 4);
        }
        for (int spot = 0; spot < 10; spot++) {
            x.hold(spot, 7);
        }
        x.seed(MIN);
        x.go(60);
        int[] greatest = {60, 8, 8, 799992, 64, 120, MIN, 10};
        for (int what = 0; what <= 7; what++) {
            due("count(" + what + ")", x.count(what), greatest[what]);
        }
        due("findings", x.status(-1), 0);
    }

    /** Promise 42: "another one" is BEYOND itself, "counted from then on". */
    private static void statusCounts() {
        InsideOut x = new InsideOut();
        for (int which = -1; which <= 6; which++) {
            due("status(" + which + ") at first", x.status(which), 0);
        }
        due("status(7)", x.status(7), BEYOND);
        due("status(0), counted from then on", x.status(0), 1);
        due("status(-2)", x.status(-2), BEYOND);
        due("status(0)", x.status(0), 2);
        due("status(-1)", x.status(-1), 2);
        x.first();
        x.undo();
        due("status(3)", x.status(3), 2);
        due("status(-1)", x.status(-1), 4);
        for (int i = 0; i < 300; i++) {
            x.load(0);
        }
        due("status(5), many", x.status(5), 300);
        due("status(-1), many", x.status(-1), 304);
        x.image();
        x.load(0);
        x.undo();
        due("undo() takes none back", x.status(5), 301);
        due("tear() takes none back", x.tear(), 1);
        due("status(-1)", x.status(-1), 305);
        for (int which : new int[] {1, 2, 4, 6}) {
            due("status(" + which + ")", x.status(which), 0);
        }
    }
}
