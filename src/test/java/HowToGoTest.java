/** Promises 16 to 22: how to go. */
public final class HowToGoTest {
    private static final long BEYOND = Due.BEYOND;
    private static final long NONE = Due.NONE;
    private static final String FULL_ROOF = "roof 0;roof 1;roof 2;roof 3;roof 4;roof 5;roof 6;roof 7";
    private static final String REST_ROOF = "roof 8;roof 9;roof 10;roof 11;roof 12;roof 13;roof 14;roof 15";

    public static void main(String[] args) {
        beyond();
        whoIsHome();
        habitFor();
        heldFor();
        kindFor();
        roofFor();
        waitFor();
        gustFor();
        ribsFor();
        Due.end();
    }

    private static void due(String call, long got, long want) {
        Due.due(call, got, want);
    }

    private static void beyond() {
        InsideOut x = Due.from("umbrella");
        int[] wrong = {-1, 1, 7, 8, Integer.MIN_VALUE, Integer.MAX_VALUE};
        for (int u : wrong) {
            due("habitFor(" + u + ")", x.habitFor(u), BEYOND);
            due("heldFor(" + u + ")", x.heldFor(u), BEYOND);
            due("kindFor(" + u + ")", x.kindFor(u), BEYOND);
            due("roofFor(" + u + ")", x.roofFor(u), BEYOND);
            due("waitFor(" + u + ")", x.waitFor(u), BEYOND);
            due("gustFor(" + u + ")", x.gustFor(u), BEYOND);
            due("ribsFor(" + u + ")", x.ribsFor(u), BEYOND);
        }
        due("status(-1)", x.status(-1), 7 * wrong.length);
    }

    private static void whoIsHome() {
        InsideOut x = Due.from("bent at 16 ribs 0 habit 2;roof 0");
        due("habitFor", x.habitFor(0), 0);
        due("heldFor", x.heldFor(0), 0);
        due("kindFor", x.kindFor(0), 0);
        due("roofFor, the first without one", x.roofFor(0), 1);
        due("waitFor", x.waitFor(0), 0);
        due("gustFor", x.gustFor(0), 99);
        due("ribsFor", x.ribsFor(0), 0);
    }

    private static void habitFor() {
        InsideOut x = Due.from("umbrella;right 1 50");
        due("habitFor, 1 and 3 alike", x.habitFor(0), 1);
        due("HABIT stays", x.of(0, 3), 0);
        x = Due.from("umbrella;right 1 81");
        due("habitFor, shut is drier than out", x.habitFor(0), 3);
        x = Due.from("umbrella habit 3");
        due("habitFor, all alike", x.habitFor(0), 0);
        x = Due.from("umbrella held 1;left 0 21;right 1 70;right 2 10", "below 15 41");
        x.change(0, 5, 1);
        // 0 stays out at step 0, 2 too (the next is from right); 1 and 3 are back at once
        due("habitFor, out now", x.habitFor(0), 1);
        x = Due.from("paper;gust 99;rain 5");
        x.step(0, 1, 99);
        x.change(0, 5, 1);
        x.step(0, 0, 1);
        // habit 3 is shut as long as WIND is above 10, so it stays out; 1 comes back at once
        due("habitFor, a PAPER out", x.habitFor(0), 1);
        x = Due.from("umbrella at 15;right 15 99;right 14 99");
        x.change(0, 5, 1);
        x.change(0, 0, 6);
        x.change(0, 4, 0);
        // at STEP 15 habit 2 holds towards FROM of that, as 1 does
        due("habitFor at the last step", x.habitFor(0), 1);
        x = Due.from("golf ribs 0 held 3;left 0 1;right 1 1");
        due("habitFor, HELD shut", x.habitFor(0), 0);
    }

    private static void heldFor() {
        InsideOut x = Due.from("umbrella held 1");
        due("heldFor", x.heldFor(0), 0);
        due("HELD stays", x.of(0, 2), 1);
        x = below(41);
        due("heldFor, from below", x.heldFor(0), 2);
        x = below(99);
        due("heldFor, shut is drier than turning out at each step", x.heldFor(0), 3);
        x = below(41);
        x.change(0, 3, 1);
        due("heldFor, the habit decides", x.heldFor(0), 0);
        x = Due.from("umbrella at 15 held 3;below 15 99");
        x.change(0, 5, 1);
        due("heldFor, out now", x.heldFor(0), 2);
        x = Due.from("umbrella habit 2;right 1 99;left 2 99");
        x.change(0, 5, 1);
        due("heldFor, the habit never brings it home", x.heldFor(0), NONE);
        due("status(3)", x.status(3), 1);
    }

    private static InsideOut below(int strength) {
        InsideOut x = Due.from("umbrella");
        for (int step = 0; step < 16; step++) {
            x.step(step, 0, 2);
            x.step(step, 1, strength);
        }
        return x;
    }

    private static void kindFor() {
        InsideOut x = Due.from("umbrella");
        due("kindFor, a GOLF stays dry", x.kindFor(0), 6);
        due("KIND stays", x.of(0, 0), 0);
        x = Due.from("umbrella;rain 99");
        due("kindFor, rain 99", x.kindFor(0), 1);
        x = Due.from("umbrella;rain 0");
        due("kindFor, all alike", x.kindFor(0), 0);
        x = Due.from("umbrella;gust 21");
        // a GOLF bears 30 and is out in each gust; a BIG is at HOME with 32
        due("kindFor, gust 21", x.kindFor(0), 1);
        x = Due.from("umbrella held 1");
        x.change(0, 5, 1);
        due("kindFor, none", x.kindFor(0), NONE);
        x = Due.from("umbrella at 13 held 1;gust 45");
        // held across at TICK 2 WIND is 55: only those two steps on a TICK are HOME by then
        due("kindFor, by pace", x.kindFor(0), 4);
    }

    private static void roofFor() {
        InsideOut x = Due.from("umbrella");
        due("roofFor, all alike", x.roofFor(0), 0);
        due("ROOF stays", x.stepOf(0, 2), 0);
        x = Due.from("umbrella;roof 0;roof 1");
        due("roofFor, those with one are left out", x.roofFor(0), 2);
        x = Due.from("umbrella at 3");
        due("roofFor, steps behind it count too, but less", x.roofFor(0), 3);
        x = Due.from("umbrella;right 5 20");
        due("roofFor, the corner", x.roofFor(0), 5);
        x = Due.from("umbrella;right 5 22");
        due("roofFor, too strong at the corner", x.roofFor(0), NONE);
        x = Due.from("umbrella", FULL_ROOF, REST_ROOF);
        due("roofFor, all have one", x.roofFor(0), NONE);
        x.step(15, 2, 0);
        due("roofFor, all but the last have one", x.roofFor(0), 15);
        x = Due.from("umbrella at 16", FULL_ROOF, REST_ROOF);
        due("roofFor of one that is HOME, all have one", x.roofFor(0), NONE);
        due("roofs stay", x.now(5), 65535);
    }

    private static void waitFor() {
        InsideOut x = Due.from("umbrella");
        due("waitFor, all alike", x.waitFor(0), 0);
        x = Due.from("umbrella;right 5 20");
        due("waitFor, not in the gust", x.waitFor(0), 1);
        due("TICK stays", x.now(0), 0);
        x = Due.from("umbrella;right 5 20;right 4 20");
        due("waitFor, two steps without a gust", x.waitFor(0), 2);
        x = Due.from("umbrella;right 5 20;right 4 20;right 3 20");
        due("waitFor, never three", x.waitFor(0), NONE);
        x = Due.from("golf at 15;rain 50");
        x.go(1);
        x.change(0, 7, 0);
        x.change(0, 1, 15);
        due("waitFor, a GOLF at an odd TICK", x.waitFor(0), 1);
    }

    private static void gustFor() {
        InsideOut x = Due.from("umbrella");
        due("gustFor", x.gustFor(0), 70);
        due("GUST stays", x.weather(1, 20), 20);
        x = Due.from("paper");
        due("gustFor of a PAPER", x.gustFor(0), 0);
        x = Due.from("umbrella;left 3 80");
        due("gustFor, where no gust comes", x.gustFor(0), 70);
        x = Due.from("umbrella;left 2 80");
        due("gustFor, where a gust comes", x.gustFor(0), 0);
        x = Due.from("umbrella;left 2 81");
        due("gustFor, none", x.gustFor(0), NONE);
        x = Due.from("umbrella;left 2 81;roof 2");
        due("gustFor beneath a roof", x.gustFor(0), 70);
        x = Due.from("umbrella habit 3;left 2 81");
        due("gustFor by habit 3", x.gustFor(0), 99);
        x = Due.from("umbrella held 3");
        due("gustFor, shut", x.gustFor(0), 99);
        x = Due.from("umbrella");
        x.change(0, 5, 1);
        x.change(0, 6, 4);
        due("gustFor, out now", x.gustFor(0), 70);
        x.change(0, 6, 999);
        x.step(2, 1, 99);
        due("gustFor, TURNED can't be more", x.gustFor(0), 99);
    }

    private static void ribsFor() {
        InsideOut x = Due.from("umbrella");
        due("ribsFor", x.ribsFor(0), 3);
        due("RIBS stay", x.of(0, 4), 8);
        x = Due.from("umbrella ribs 0;gust 70");
        due("ribsFor, all", x.ribsFor(0), 8);
        x = Due.from("umbrella;gust 71");
        due("ribsFor, none", x.ribsFor(0), NONE);
        x = Due.from("paper;gust 0");
        due("ribsFor of a PAPER", x.ribsFor(0), 0);
        x = Due.from("paper");
        due("ribsFor of a PAPER in gusts", x.ribsFor(0), NONE);
        x = Due.from("big");
        due("ribsFor of a BIG", x.ribsFor(0), 5);
        x = Due.from("golf");
        due("ribsFor of a GOLF", x.ribsFor(0), 8);
        x = Due.from("small");
        due("ribsFor of a SMALL", x.ribsFor(0), 0);
        x = Due.from("umbrella");
        x.change(0, 6, 999);
        due("ribsFor, TURNED can't be more", x.ribsFor(0), 0);
    }
}
