/** Promises 9 and 10: ticks, and what is so now. */
public final class TicksTest {
    private static final long BEYOND = Due.BEYOND;

    public static void main(String[] args) {
        plainWalk();
        turnsOutAndBack();
        staysOut();
        shut();
        habits();
        roofs();
        greatestAndLeast();
        paces();
        whoIsHomeStays();
        wetWithoutCover();
        now();
        goBeyond();
        lastTick();
        Due.end();
    }

    private static void due(String call, long got, long want) {
        Due.due(call, got, want);
    }

    /** AT, HELD, RIBS, OUT, TURNED, WET. */
    private static void dueMarks(String when, InsideOut x, int u, int... want) {
        int[] whats = {1, 2, 4, 5, 6, 7};
        for (int i = 0; i < whats.length; i++) {
            due(when + ": of(" + u + ", " + whats[i] + ")", x.of(u, whats[i]), want[i]);
        }
    }

    private static void plainWalk() {
        InsideOut x = Due.from("umbrella");
        due("go(1)", x.go(1), 0);
        dueMarks("plain, 1", x, 0, 1, 0, 8, 0, 0, 4);
        due("go(14)", x.go(14), 0);
        dueMarks("plain, 15", x, 0, 15, 0, 8, 0, 0, 60);
        due("TICK", x.now(0), 15);
        due("go(1)", x.go(1), 1);
        dueMarks("plain, 16", x, 0, 16, 0, 8, 0, 0, 64);
        due("go(60)", x.go(60), 1);
        due("TICK", x.now(0), 76);
    }

    private static void turnsOutAndBack() {
        InsideOut x = Due.from("umbrella;left 0 80");
        x.go(1);
        dueMarks("as much as it bears", x, 0, 1, 0, 8, 0, 0, 4);
        x = Due.from("umbrella;left 0 81");
        x.go(1);
        dueMarks("out", x, 0, 0, 0, 7, 1, 1, 8);
        x.go(1);
        dueMarks("back, and not out in the same tick", x, 0, 1, 0, 7, 0, 1, 12);
        x = Due.from("umbrella at 2;left 2 61");
        x.go(1);
        x.change(0, 1, 2);
        x.go(1);
        x.change(0, 1, 2);
        dueMarks("before the gust", x, 0, 2, 0, 8, 0, 0, 8);
        x.go(1);
        dueMarks("out by the gust", x, 0, 2, 0, 7, 1, 1, 16);
    }

    private static void staysOut() {
        InsideOut x = Due.from("umbrella held 0;right 0 21");
        x.go(1);
        dueMarks("across", x, 0, 0, 0, 7, 1, 1, 8);
        x.go(20);
        dueMarks("still out", x, 0, 0, 0, 7, 1, 1, 168);
        due("those OUT", x.now(3), 1);
        x.change(0, 2, 2);
        x.go(1);
        dueMarks("held below is not towards right", x, 0, 0, 2, 7, 1, 1, 176);
        x.change(0, 2, 1);
        x.go(1);
        dueMarks("turned into the wind", x, 0, 1, 1, 7, 0, 1, 180);
        x = Due.from("umbrella held 0;right 0 20");
        x.go(1);
        dueMarks("across, borne", x, 0, 1, 0, 8, 0, 0, 4);
        x = Due.from("umbrella held 0;below 0 41");
        x.go(1);
        dueMarks("from below", x, 0, 0, 0, 7, 1, 1, 8);
    }

    private static void shut() {
        InsideOut x = Due.from("umbrella held 3;below 0 99;right 1 99");
        x.go(2);
        dueMarks("shut", x, 0, 2, 3, 8, 0, 0, 16);
        x.change(0, 5, 1);
        x.go(2);
        dueMarks("shut and out", x, 0, 2, 3, 8, 1, 0, 32);
    }

    private static void habits() {
        InsideOut x = Due.from("umbrella held 2;umbrella habit 1;umbrella habit 2;umbrella habit 3",
            "right 0 10;below 1 10;left 2 10;below 15 10");
        x.go(1);
        due("habit 0", x.of(0, 2), 2);
        due("habit 1", x.of(1, 2), 1);
        due("habit 2", x.of(2, 2), 2);
        due("habit 3", x.of(3, 2), 1);
        x.go(1);
        due("habit 0", x.of(0, 2), 2);
        due("habit 1", x.of(1, 2), 2);
        due("habit 2", x.of(2, 2), 0);
        due("habit 3", x.of(3, 2), 2);
        x.change(2, 1, 15);
        x.go(1);
        due("habit 2 at the last step", x.of(2, 2), 2);
        x = Due.from("umbrella habit 3;right 0 80");
        x.go(1);
        dueMarks("habit 3, borne", x, 0, 1, 1, 8, 0, 0, 4);
        x = Due.from("umbrella habit 3;right 0 81");
        x.go(1);
        dueMarks("habit 3, shut", x, 0, 1, 3, 8, 0, 0, 8);
        x.go(1);
        dueMarks("habit 3, open again", x, 0, 2, 0, 8, 0, 0, 12);
        x = Due.from("umbrella habit 3;right 0 81");
        x.change(0, 5, 1);
        x.go(1);
        dueMarks("habit 3, shut while out", x, 0, 0, 3, 8, 1, 0, 8);
        x.step(0, 1, 80);
        x.go(1);
        dueMarks("habit 3, back", x, 0, 1, 1, 8, 0, 0, 12);
        x = Due.from("umbrella habit 2;right 1 21");
        x.go(2);
        dueMarks("habit 2, out at the corner", x, 0, 1, 0, 7, 1, 1, 12);
    }

    private static void roofs() {
        InsideOut x = Due.from("umbrella;left 0 99;roof 0;roof 1");
        x.go(1);
        dueMarks("beneath a roof", x, 0, 1, 0, 8, 0, 0, 0);
        x.go(2);
        dueMarks("behind the roofs", x, 0, 3, 0, 8, 0, 0, 4);
        x = Due.from("umbrella ribs 4;left 0 82;roof 0");
        x.go(1);
        dueMarks("out beneath a roof", x, 0, 0, 0, 3, 1, 1, 0);
    }

    private static void greatestAndLeast() {
        InsideOut x = Due.from("umbrella ribs 0;left 0 1;rain 99");
        x.change(0, 6, 999);
        x.change(0, 7, 99990);
        x.go(1);
        dueMarks("at the ends", x, 0, 0, 0, 0, 1, 999, 99999);
        x = Due.from("paper at 15;binned at 15;rain 0");
        due("go(1)", x.go(1), 3);
        dueMarks("HOME at most", x, 0, 16, 0, 8, 0, 0, 0);
        dueMarks("HOME at most", x, 1, 16, 0, 8, 0, 0, 0);
    }

    private static void paces() {
        InsideOut x = Due.from("umbrella;big;small;bent;binned;paper;golf", "gust 0");
        x.go(2);
        int[] at = {2, 2, 2, 2, 4, 4, 1};
        int[] wet = {8, 4, 12, 14, 15, 8, 0};
        for (int u = 0; u < 7; u++) {
            due("AT of kind " + u, x.of(u, 1), at[u]);
            due("WET of kind " + u, x.of(u, 7), wet[u]);
        }
    }

    private static void whoIsHomeStays() {
        InsideOut x = Due.from("umbrella at 16 held 1 habit 1;rain 50");
        x.change(0, 5, 1);
        due("go(60)", x.go(60), 1);
        dueMarks("HOME", x, 0, 16, 1, 8, 1, 0, 0);
    }

    private static void wetWithoutCover() {
        InsideOut x = Due.from("paper;gust 0");
        x.change(0, 7, 49);
        x.go(1);
        due("PAPER below 50", x.of(0, 7), 53);
        x.go(1);
        due("PAPER from 50 on", x.of(0, 7), 61);
    }

    private static void now() {
        InsideOut x = Due.from("umbrella at 16 ribs 3;big at 4;umbrella ribs 5 held 1;roof 0;roof 15;left 0 99");
        x.change(0, 7, 5000);
        x.change(0, 6, 7);
        x.go(1);
        due("now(0)", x.now(0), 1);
        due("now(1)", x.now(1), 5000 + 2 + 0);
        due("now(2)", x.now(2), 1);
        due("now(3)", x.now(3), 4);
        due("now(4)", x.now(4), 3 + 8 + 4);
        due("now(5)", x.now(5), 1 + 32768);
        due("now(6)", x.now(6), 7 + 0 + 1);
        due("now(-1)", x.now(-1), BEYOND);
        due("now(7)", x.now(7), BEYOND);
        due("now(MIN)", x.now(Integer.MIN_VALUE), BEYOND);
        due("now(MAX)", x.now(Integer.MAX_VALUE), BEYOND);
        due("status(0)", x.status(0), 4);
    }

    private static void goBeyond() {
        InsideOut x = Due.from("umbrella");
        int[] beyond = {0, -1, 61, Integer.MIN_VALUE, Integer.MAX_VALUE};
        for (int n : beyond) {
            due("go(" + n + ")", x.go(n), BEYOND);
        }
        due("TICK", x.now(0), 0);
        due("go(60)", x.go(60), 1);
        due("TICK", x.now(0), 60);
        due("status(0)", x.status(0), beyond.length);
    }

    /** More calls than are promised, but STATE can be reached by no fewer. */
    private static void lastTick() {
        InsideOut x = new InsideOut();
        for (int i = 0; i < 1666; i++) {
            x.go(60);
        }
        due("TICK", x.now(0), 99960);
        due("go(40)", x.go(40), Due.STATE);
        due("go(61)", x.go(61), BEYOND);
        due("gusts(20)", x.gusts(20), 0);
        due("gusts(20)", x.gusts(20), Due.STATE);
        due("gusts(21)", x.gusts(21), BEYOND);
        due("TICK stays", x.now(0), 99980);
        x.image();
        due("gusts(19)", x.gusts(19), 0);
        due("TICK", x.now(0), 99999);
        due("undo()", x.undo(), 99980);
        due("go(19)", x.go(19), 0);
        due("go(1)", x.go(1), Due.STATE);
        due("gusts(1)", x.gusts(1), Due.STATE);
        due("TICK", x.now(0), 99999);
        due("status(4)", x.status(4), 4);
        x.umbrella(6);
        x.umbrella(0);
        due("a GOLF, TICK stays odd", x.home(0), Due.NONE);
        due("an UMBRELLA at the last TICK", x.home(1), 16);
    }
}
