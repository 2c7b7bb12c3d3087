/** Promises 1 to 8: a new object, the street, the weather, the umbrellas. */
public final class StreetTest {
    private static final long BEYOND = Due.BEYOND;
    private static final int MIN = Integer.MIN_VALUE;
    private static final int MAX = Integer.MAX_VALUE;

    public static void main(String[] args) {
        newObject();
        step();
        stepOf();
        weather();
        umbrella();
        ofAndChange();
        changeBeyond();
        stiff();
        covers();
        pace();
        bears();
        Due.end();
    }

    private static void due(String call, long got, long want) {
        Due.due(call, got, want);
    }

    private static void newObject() {
        InsideOut x = new InsideOut();
        for (int step = 0; step < 16; step++) {
            due("new: FROM", x.stepOf(step, 0), 0);
            due("new: STRENGTH", x.stepOf(step, 1), 10);
            due("new: ROOF", x.stepOf(step, 2), 0);
            due("new: WIND", x.stepOf(step, 3), 10);
            due("new: UMBRELLAS AT", x.stepOf(step, 4), 0);
        }
        for (int what = 0; what <= 7; what++) {
            due("new: count(" + what + ")", x.count(what), what == 6 ? 1 : 0);
        }
        for (int what = 0; what <= 6; what++) {
            due("new: now(" + what + ")", x.now(what), 0);
        }
        due("new: status(-1)", x.status(-1), 0);
        due("new: RAIN", x.weather(0, 8), 8);
        due("new: GUST", x.weather(1, 20), 20);
        due("new: TAPE", x.wipe(), 0);
        due("new: seed", x.seed(1), 1);
        due("new: undo", x.undo(), Due.NONE);
        due("new: tear", x.tear(), 0);
        for (int s = 0; s < 4; s++) {
            due("new: sheet", x.write(s, 0, 0), Due.MISSING);
        }
        for (int spot = 0; spot < 10; spot++) {
            due("new: spot", x.as(spot, 0), Due.MISSING);
        }
        due("new: no umbrella", x.of(0, 0), BEYOND);
    }

    private static void step() {
        InsideOut x = new InsideOut();
        due("step(0, 0, 2)", x.step(0, 0, 2), 0);
        due("step(0, 0, 1)", x.step(0, 0, 1), 2);
        due("step(15, 1, 99)", x.step(15, 1, 99), 10);
        due("step(15, 1, 0)", x.step(15, 1, 0), 99);
        due("step(7, 2, 1)", x.step(7, 2, 1), 0);
        due("step(7, 2, 0)", x.step(7, 2, 0), 1);
        int[][] beyond = {
            {-1, 0, 0}, {16, 0, 0}, {MIN, 0, 0}, {MAX, 0, 0},
            {0, -1, 0}, {0, 3, 0}, {0, MIN, 0}, {0, MAX, 0},
            {0, 0, -1}, {0, 0, 3}, {0, 1, -1}, {0, 1, 100}, {0, 2, -1}, {0, 2, 2},
            {0, 0, MIN}, {0, 1, MAX}, {0, 2, MAX},
        };
        for (int[] a : beyond) {
            due("step beyond", x.step(a[0], a[1], a[2]), BEYOND);
        }
        due("FROM after findings", x.stepOf(0, 0), 1);
        due("STRENGTH after findings", x.stepOf(0, 1), 10);
        due("ROOF after findings", x.stepOf(0, 2), 0);
        due("status(0)", x.status(0), beyond.length);
    }

    private static void stepOf() {
        InsideOut x = new InsideOut();
        x.step(3, 1, 11);
        x.step(3, 0, 2);
        due("FROM", x.stepOf(3, 0), 2);
        due("STRENGTH", x.stepOf(3, 1), 11);
        due("WIND", x.stepOf(3, 3), 11);
        x.step(3, 2, 1);
        due("WIND beneath a ROOF", x.stepOf(3, 3), 5);
        due("ROOF", x.stepOf(3, 2), 1);
        x.go(1);
        due("WIND, TICK 1", x.stepOf(3, 3), 5);
        x.go(1);
        due("WIND, TICK 2, beneath a ROOF", x.stepOf(3, 3), 15);
        due("WIND, TICK 2", x.stepOf(4, 3), 30);
        due("STRENGTH, TICK 2", x.stepOf(4, 1), 10);
        x.go(1);
        due("WIND, TICK 3", x.stepOf(4, 3), 10);
        x.go(2);
        due("WIND, TICK 5", x.stepOf(4, 3), 30);
        x.umbrella(0);
        x.umbrella(1);
        x.umbrella(2);
        x.change(1, 1, 9);
        x.change(2, 1, 16);
        due("UMBRELLAS AT 0", x.stepOf(0, 4), 1);
        due("UMBRELLAS AT 9", x.stepOf(9, 4), 2);
        x.change(0, 1, 9);
        due("UMBRELLAS AT 0, none", x.stepOf(0, 4), 0);
        due("UMBRELLAS AT 9, two", x.stepOf(9, 4), 3);
        int[][] beyond = {{-1, 0}, {16, 0}, {16, 4}, {MIN, 4}, {MAX, 4}, {0, -1}, {0, 5}, {0, MIN}, {0, MAX}};
        for (int[] a : beyond) {
            due("stepOf beyond", x.stepOf(a[0], a[1]), BEYOND);
        }
        due("status(-1)", x.status(-1), beyond.length);
    }

    private static void weather() {
        InsideOut x = new InsideOut();
        due("weather(0, 0)", x.weather(0, 0), 8);
        due("weather(0, 99)", x.weather(0, 99), 0);
        due("weather(1, 99)", x.weather(1, 99), 20);
        due("weather(1, 0)", x.weather(1, 0), 99);
        int[][] beyond = {{-1, 0}, {2, 0}, {0, -1}, {0, 100}, {1, -1}, {1, 100}, {MIN, 0}, {MAX, 0}, {0, MIN}, {1, MAX}};
        for (int[] a : beyond) {
            due("weather beyond", x.weather(a[0], a[1]), BEYOND);
        }
        due("weather(0, 5)", x.weather(0, 5), 99);
        due("weather(1, 5)", x.weather(1, 5), 0);
    }

    private static void umbrella() {
        InsideOut x = new InsideOut();
        due("umbrella(-1)", x.umbrella(-1), BEYOND);
        due("umbrella(7)", x.umbrella(7), BEYOND);
        for (int u = 0; u < 8; u++) {
            due("umbrella", x.umbrella(u % 7), u);
            int[] first = {u % 7, 0, 0, 0, 8, 0, 0, 0};
            for (int what = 0; what < first.length; what++) {
                due("of a new umbrella " + what, x.of(u, what), first[what]);
            }
        }
        due("umbrella, the 9th", x.umbrella(0), Due.FULL);
        due("umbrella(7), the 9th", x.umbrella(7), BEYOND);
        due("umbrella(MIN), the 9th", x.umbrella(MIN), BEYOND);
        due("count(1)", x.count(1), 8);
        due("status(1)", x.status(1), 1);
        due("status(0)", x.status(0), 4);
    }

    private static void ofAndChange() {
        InsideOut x = new InsideOut();
        x.umbrella(0);
        x.umbrella(0);
        int[] first = {0, 0, 0, 0, 8, 0, 0, 0};
        int[] greatest = {6, 16, 3, 3, 8, 1, 999, 99999};
        for (int what = 0; what <= 7; what++) {
            due("change to the greatest", x.change(1, what, greatest[what]), first[what]);
            due("of the greatest", x.of(1, what), greatest[what]);
            due("of another", x.of(0, what), first[what]);
            due("change above the greatest", x.change(1, what, greatest[what] + 1), BEYOND);
            due("change below 0", x.change(1, what, -1), BEYOND);
            due("of the greatest, still", x.of(1, what), greatest[what]);
            due("change to 0", x.change(1, what, 0), greatest[what]);
            due("of 0", x.of(1, what), 0);
        }
    }

    private static void changeBeyond() {
        InsideOut x = new InsideOut();
        x.umbrella(0);
        int[][] of = {{-1, 0}, {1, 0}, {8, 0}, {MIN, 0}, {MAX, 0}, {0, -1}, {0, 11}, {0, MIN}, {0, MAX}};
        for (int[] a : of) {
            due("of beyond", x.of(a[0], a[1]), BEYOND);
        }
        int[][] change = {{-1, 1, 3}, {1, 1, 3}, {MAX, 1, 3}, {0, -1, 0}, {0, 8, 0}, {0, 9, 0}, {0, MIN, 0}, {0, MAX, 0},
            {0, 0, MIN}, {0, 7, MAX}};
        for (int[] a : change) {
            due("change beyond", x.change(a[0], a[1], a[2]), BEYOND);
        }
        due("status(0)", x.status(0), of.length + change.length);
    }

    private static void stiff() {
        int[][] rows = {
            // RIBS, WET, and STIFF of KINDS 0 to 6
            {8, 0, 40, 30, 55, 55, 27, 5, 15},
            {8, 99, 40, 30, 55, 55, 27, 5, 15},
            {8, 100, 40, 30, 55, 54, 27, 5, 15},
            {3, 0, 15, 5, 30, 30, 15, 5, 2},
            {2, 0, 10, 0, 25, 25, 12, 5, 0},
            {1, 0, 5, 0, 20, 20, 10, 5, 0},
            {0, 0, 0, 0, 15, 15, 7, 5, 0},
            {0, 199, 0, 0, 15, 14, 7, 5, 0},
            {0, 1499, 0, 0, 15, 1, 0, 5, 0},
            {0, 1600, 0, 0, 15, 0, 0, 5, 0},
            {8, 99999, 40, 30, 55, 0, 0, 5, 15},
        };
        InsideOut x = new InsideOut();
        x.umbrella(0);
        for (int[] row : rows) {
            x.change(0, 4, row[0]);
            x.change(0, 7, row[1]);
            for (int kind = 0; kind <= 6; kind++) {
                x.change(0, 0, kind);
                due("STIFF, ribs " + row[0] + ", wet " + row[1] + ", kind " + kind, x.of(0, 8), row[2 + kind]);
            }
        }
    }

    private static void covers() {
        int[][] rows = {
            // RAIN, WET, and COVERS of KINDS 0 to 6 at an even TICK
            {8, 0, 4, 6, 2, 1, 1, 4, 8},
            {8, 49, 4, 6, 2, 1, 1, 4, 8},
            {8, 50, 4, 6, 2, 1, 1, 0, 8},
            {99, 0, 49, 73, 33, 32, 32, 4, 75},
            {7, 0, 3, 4, 2, 1, 1, 4, 6},
            {4, 0, 2, 3, 1, 0, 0, 4, 4},
            {3, 0, 1, 1, 1, 0, 0, 3, 3},
            {2, 0, 1, 1, 0, 0, 0, 2, 2},
            {1, 0, 0, 0, 0, 0, 0, 1, 1},
            {0, 0, 0, 0, 0, 0, 0, 0, 0},
        };
        InsideOut x = new InsideOut();
        x.umbrella(0);
        for (int[] row : rows) {
            x.weather(0, row[0]);
            x.change(0, 7, row[1]);
            for (int kind = 0; kind <= 6; kind++) {
                x.change(0, 0, kind);
                due("COVERS, rain " + row[0] + ", wet " + row[1] + ", kind " + kind, x.of(0, 9), row[2 + kind]);
            }
        }
        x.weather(0, 99);
        x.change(0, 0, 4);
        x.change(0, 1, 16);
        x.go(1);
        due("COVERS of a BINNED, TICK 1", x.of(0, 9), 0);
        x.change(0, 0, 3);
        due("COVERS of a BENT, TICK 1", x.of(0, 9), 32);
        x.change(0, 2, 3);
        x.change(0, 5, 1);
        due("COVERS is told of one that is shut and OUT, too", x.of(0, 9), 32);
        x.go(1);
        x.change(0, 0, 4);
        due("COVERS of a BINNED, TICK 2", x.of(0, 9), 32);
    }

    private static void pace() {
        int[][] rows = {{1, 1, 1, 1, 2, 2, 1}, {1, 1, 1, 1, 2, 2, 0}, {1, 1, 1, 1, 2, 2, 1}};
        InsideOut x = new InsideOut();
        x.umbrella(0);
        for (int tick = 0; tick < 3; tick++) {
            for (int kind = 0; kind <= 6; kind++) {
                x.change(0, 0, kind);
                due("PACE, tick " + tick + ", kind " + kind, x.of(0, 10), rows[tick][kind]);
            }
            x.go(1);
        }
    }

    private static void bears() {
        InsideOut x = new InsideOut();
        x.umbrella(0);
        x.change(0, 4, 7);
        x.step(1, 0, 1);
        x.step(2, 0, 2);
        int[][] rows = {{70, 17, 35}, {17, 70, 35}, {35, 35, 70}};
        for (int step = 0; step < 3; step++) {
            for (int held = 0; held < 3; held++) {
                due("bears(0, " + step + ", " + held + ")", x.bears(0, step, held), rows[step][held]);
            }
        }
        due("HELD stays", x.of(0, 2), 0);
        int[][] beyond = {{-1, 0, 0}, {1, 0, 0}, {MAX, 0, 0}, {0, -1, 0}, {0, 16, 0}, {0, MIN, 0},
            {0, 0, -1}, {0, 0, 3}, {0, 0, MAX}};
        for (int[] a : beyond) {
            due("bears beyond", x.bears(a[0], a[1], a[2]), BEYOND);
        }
        due("status(0)", x.status(0), beyond.length);
    }
}
