/** Promises 11 to 15: what will be; nothing changes. */
public final class AheadTest {
    private static final long BEYOND = Due.BEYOND;
    private static final long NONE = Due.NONE;
    private static final int MIN = Integer.MIN_VALUE;
    private static final int MAX = Integer.MAX_VALUE;

    public static void main(String[] args) {
        ahead();
        home();
        homeWith();
        whup();
        first();
        nothingChanges();
        Due.end();
    }

    private static void due(String call, long got, long want) {
        Due.due(call, got, want);
    }

    private static void ahead() {
        InsideOut x = Due.from("paper");
        int[][] rows = {
            // n, then AT, HELD, HABIT, RIBS, OUT, TURNED, WET
            {0, 0, 0, 0, 8, 0, 0, 0},
            {1, 2, 0, 0, 8, 0, 0, 4},
            {2, 4, 0, 0, 8, 0, 0, 8},
            {3, 4, 0, 0, 7, 1, 1, 16},
            {4, 6, 0, 0, 7, 0, 1, 20},
            {9, 12, 0, 0, 5, 1, 3, 48},
            {10, 14, 0, 0, 5, 0, 3, 52},
            {11, 16, 0, 0, 5, 0, 3, 60},
            {100, 16, 0, 0, 5, 0, 3, 60},
        };
        for (int[] row : rows) {
            for (int what = 1; what <= 7; what++) {
                due("ahead(0, " + what + ", " + row[0] + ")", x.ahead(0, what, row[0]), row[what]);
            }
        }
        int[][] beyond = {{-1, 1, 0}, {1, 1, 0}, {MAX, 1, 0}, {0, 0, 0}, {0, 8, 0}, {0, -1, 0}, {0, MIN, 0},
            {0, 1, -1}, {0, 1, 101}, {0, 1, MIN}, {0, 1, MAX}};
        for (int[] a : beyond) {
            due("ahead beyond", x.ahead(a[0], a[1], a[2]), BEYOND);
        }
        due("status(0)", x.status(0), beyond.length);
        x = Due.from("umbrella habit 1;below 1 10");
        due("ahead HELD", x.ahead(0, 2, 2), 2);
        due("ahead HABIT", x.ahead(0, 3, 2), 1);
    }

    private static void home() {
        InsideOut x = Due.from("umbrella;paper;golf;umbrella at 16;binned at 3;umbrella held 1;big at 15");
        int[] want = {16, 11, 31, 0, 7, -1, 1};
        for (int u = 0; u < want.length; u++) {
            due("home(" + u + ")", x.home(u), want[u] < 0 ? NONE : want[u]);
        }
        due("home(-1)", x.home(-1), BEYOND);
        due("home(7)", x.home(7), BEYOND);
        due("home(MIN)", x.home(MIN), BEYOND);
        due("home(MAX)", x.home(MAX), BEYOND);
        due("status(0)", x.status(0), 4);
        due("status(3)", x.status(3), 1);
        x.go(1);
        due("home of a GOLF from an odd TICK", x.home(2), 30);
        due("home of an UMBRELLA", x.home(0), 15);
    }

    private static void homeWith() {
        InsideOut x = Due.from("paper;umbrella held 1;umbrella at 16 ribs 2");
        x.change(2, 7, 77);
        x.change(2, 6, 5);
        due("homeWith(0, 7)", x.homeWith(0, 7), 60);
        due("homeWith(0, 6)", x.homeWith(0, 6), 3);
        due("homeWith(0, 4)", x.homeWith(0, 4), 5);
        due("homeWith(1, 7)", x.homeWith(1, 7), NONE);
        due("homeWith(2, 7)", x.homeWith(2, 7), 77);
        due("homeWith(2, 6)", x.homeWith(2, 6), 5);
        due("homeWith(2, 4)", x.homeWith(2, 4), 2);
        int[] whats = {-1, 0, 1, 2, 3, 5, 8, MIN, MAX};
        for (int what : whats) {
            due("homeWith(1, " + what + ")", x.homeWith(1, what), BEYOND);
        }
        due("homeWith(3, 7)", x.homeWith(3, 7), BEYOND);
        due("homeWith(-1, 7)", x.homeWith(-1, 7), BEYOND);
    }

    private static void whup() {
        InsideOut x = Due.from("paper;umbrella;umbrella at 16;umbrella at 3;left 3 99");
        due("whup(0)", x.whup(0), 3);
        due("whup(1)", x.whup(1), 4);
        due("whup(2)", x.whup(2), NONE);
        due("whup(3)", x.whup(3), 1);
        x.change(3, 6, 999);
        due("whup, TURNED can't be more", x.whup(3), NONE);
        x.change(3, 6, 998);
        due("whup, TURNED can be 1 more", x.whup(3), 1);
        x.change(1, 2, 3);
        due("whup, shut", x.whup(1), NONE);
        due("whup(4)", x.whup(4), BEYOND);
        due("whup(-1)", x.whup(-1), BEYOND);
        due("whup(MAX)", x.whup(MAX), BEYOND);
    }

    private static void first() {
        InsideOut x = new InsideOut();
        due("first() of none", x.first(), NONE);
        x.umbrella(0);
        x.change(0, 5, 1);
        x.change(0, 2, 1);
        due("first() of one that stays out", x.first(), NONE);
        x.umbrella(0);
        due("first()", x.first(), 1);
        x.umbrella(5);
        due("first(), a PAPER", x.first(), 2);
        x.umbrella(5);
        due("first(), the least number of two", x.first(), 2);
        x.umbrella(0);
        x.change(4, 1, 16);
        due("first(), one that is HOME now", x.first(), 4);
        due("status(3)", x.status(3), 2);
        x = Due.from("paper;umbrella");
        due("first(), number 0", x.first(), 0);
        x = Due.from("umbrella;umbrella");
        due("first(), number 0 of two alike", x.first(), 0);
    }

    private static void nothingChanges() {
        InsideOut x = Due.from("paper;golf habit 2;binned habit 3;right 4 70;below 9 55;roof 6");
        long before = print(x);
        for (int u = 0; u < 3; u++) {
            x.ahead(u, 7, 100);
            x.home(u);
            x.homeWith(u, 7);
            x.whup(u);
            x.habitFor(u);
            x.heldFor(u);
            x.kindFor(u);
            x.roofFor(u);
            x.waitFor(u);
            x.gustFor(u);
            x.ribsFor(u);
            x.sheet(0, 8, 40);
            x.fits(0, u);
            x.kinds(0, u);
        }
        x.first();
        due("all stays", print(x), before);
    }

    private static long print(InsideOut x) {
        long all = 17;
        for (int u = 0; u < 3; u++) {
            for (int what = 0; what <= 10; what++) {
                all = all * 31 + x.of(u, what);
            }
        }
        for (int step = 0; step < 16; step++) {
            for (int what = 0; what <= 4; what++) {
                all = all * 31 + x.stepOf(step, what);
            }
        }
        for (int what = 0; what <= 7; what++) {
            all = all * 31 + x.count(what);
        }
        return all;
    }
}
