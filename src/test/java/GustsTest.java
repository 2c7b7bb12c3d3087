/** Promises 25 to 27: gusts by draws, their odds, the seed. */
public final class GustsTest {
    private static final long BEYOND = Due.BEYOND;
    private static final int MIN = Integer.MIN_VALUE;
    private static final int MAX = Integer.MAX_VALUE;

    public static void main(String[] args) {
        draws();
        wentOut();
        gustsBeyond();
        odds();
        oddsBeyond();
        seed();
        Due.end();
    }

    private static void due(String call, long got, long want) {
        Due.due(call, got, want);
    }

    private static void draws() {
        InsideOut x = new InsideOut();
        due("gusts(1)", x.gusts(1), 0);
        due("STEP 14", x.stepOf(14, 1), 32);
        due("STEP 4, not yet", x.stepOf(4, 1), 10);
        due("TICK", x.count(0), 1);
        due("gusts(5)", x.gusts(5), 0);
        int[] want = {10, 10, 36, 10, 23, 10, 26, 10, 10, 10, 10, 10, 9, 10, 32, 36};
        for (int step = 0; step < 16; step++) {
            due("STRENGTH of " + step, x.stepOf(step, 1), want[step]);
        }
        due("TICK", x.count(0), 6);
        due("z", x.count(6), 836760821);
        x.seed(-5);
        x.gusts(6);
        due("z from -5 on", x.count(6), -2136157233);
        due("STRENGTH of 8, drawn twice", x.stepOf(8, 1), 36);
        due("STRENGTH of 3", x.stepOf(3, 1), 39);
    }

    private static void wentOut() {
        InsideOut x = Due.from("umbrella at 1 ribs 5;umbrella at 1 ribs 5;umbrella at 1 ribs 6;umbrella at 16");
        x.seed(MAX);
        x.change(1, 6, 999);
        due("gusts(1), two go out", x.gusts(1), 2);
        due("STRENGTH of 1", x.stepOf(1, 1), 56);
        due("TURNED", x.of(0, 6), 1);
        due("TURNED at most", x.of(1, 6), 999);
        due("OUT", x.now(3), 3);
        due("gusts(2), they come back", x.gusts(2), 0);
        due("OUT", x.now(3), 0);
        x = Due.from("paper;paper;gust 99");
        x.seed(0);
        int turned = x.gusts(20);
        due("gusts tells how often, together", turned, x.now(6));
        due("and that is some", turned > 2 ? 1 : 0, 1);
    }

    private static void gustsBeyond() {
        InsideOut x = Due.from("umbrella");
        int[] beyond = {0, -1, 21, MIN, MAX};
        for (int n : beyond) {
            due("gusts(" + n + ")", x.gusts(n), BEYOND);
        }
        due("z stays", x.count(6), 1);
        due("TICK stays", x.count(0), 0);
        due("status(0)", x.status(0), beyond.length);
        x.gusts(20);
        due("TICK", x.count(0), 20);
    }

    private static void odds() {
        InsideOut x = new InsideOut();
        dueOdds(x, 0, 1, 1);
        dueOdds(x, 1, 0, 1);
        dueOdds(x, 15, 0, 1);
        x.step(7, 2, 1);
        dueOdds(x, 0, 1, 1);
        dueOdds(x, 1, 1, 16);
        dueOdds(x, 15, 1, 1152921504606846976L);
        for (int step = 0; step < 6; step++) {
            x.step(step, 2, 1);
        }
        x.step(7, 2, 0);
        dueOdds(x, 1, 3, 8);
        dueOdds(x, 2, 9, 64);
        for (int step = 0; step < 15; step++) {
            x.step(step, 2, 1);
        }
        dueOdds(x, 15, 437893890380859375L, 1152921504606846976L);
        x.step(0, 2, 0);
        x.step(1, 2, 0);
        x.step(2, 2, 0);
        dueOdds(x, 3, 27, 64);
        for (int step = 0; step < 16; step++) {
            x.step(step, 2, 1);
        }
        dueOdds(x, 15, 1, 1);
        for (int step = 0; step < 8; step++) {
            x.step(step, 2, 0);
        }
        dueOdds(x, 15, 1, 32768);
        due("z stays", x.count(6), 1);
    }

    private static void dueOdds(InsideOut x, int n, long above, long below) {
        due("odds(" + n + ", 0)", x.odds(n, 0), above);
        due("odds(" + n + ", 1)", x.odds(n, 1), below);
    }

    private static void oddsBeyond() {
        InsideOut x = new InsideOut();
        int[][] beyond = {{-1, 0}, {16, 0}, {MIN, 1}, {MAX, 1}, {0, -1}, {0, 2}, {3, MIN}, {3, MAX}};
        for (int[] a : beyond) {
            due("odds beyond", x.odds(a[0], a[1]), BEYOND);
        }
        due("status(0)", x.status(0), beyond.length);
    }

    private static void seed() {
        InsideOut x = new InsideOut();
        due("seed(MIN)", x.seed(MIN), 1);
        due("seed(-1000001)", x.seed(-1000001), MIN);
        due("seed(MAX)", x.seed(MAX), -1000001);
        due("seed(0)", x.seed(0), MAX);
        due("count(6)", x.count(6), 0);
        due("no finding", x.status(-1), 0);
    }
}
