/** Promises 1 to 27: the edges that their sentences name, beside the ranges of what they take. */
public final class WalkEdgesTest {
    private static final long NONE = Due.NONE;
    private static final int AT = 1;
    private static final int HELD = 2;
    private static final int HABIT = 3;
    private static final int RIBS = 4;
    private static final int OUT = 5;
    private static final int TURNED = 6;
    private static final int WET = 7;

    public static void main(String[] args) {
        objectsAreApart();
        whatItWas();
        setsOfNoneAndAll();
        eighthUmbrella();
        goOnceAndOften();
        sums();
        aheadIsWhatGoMakes();
        homeNow();
        homeNever();
        whupFewest();
        whupMore();
        firstOfAll();
        bestOfEqual();
        bestAtTheGreatestWet();
        whatDoesNotBringItThere();
        heldByHabit();
        roofsLeftOut();
        waits();
        gustEnds();
        ribsEnds();
        gustAndNoGreater();
        ribsAndNoFewer();
        fitsOfSheets();
        kindsOfSheets();
        gustsTogether();
        oddsEnds();
        Due.end();
    }

    private static void due(String call, long got, long want) {
        Due.due(call, got, want);
    }

    private static InsideOut eight() {
        InsideOut x = new InsideOut();
        for (int u = 0; u < 8; u++) {
            x.umbrella(0);
        }
        return x;
    }

    /** Umbrella 0 is OUT, held across the wind of each STEP, and so stays where it is. */
    private static InsideOut stuck() {
        InsideOut x = Due.from("umbrella held 1");
        x.change(0, OUT, 1);
        return x;
    }

    /** Promise 1: "All as at first", also behind another object's calls. */
    private static void objectsAreApart() {
        InsideOut x = eight();
        x.step(0, 1, 99);
        x.weather(0, 99);
        x.seed(5);
        x.sheet(0, 8, 40);
        x.hold(0, 0);
        x.image();
        x.feed(0, 4);
        x.now(-1);
        InsideOut y = new InsideOut();
        for (int what = 0; what <= 7; what++) {
            due("count(" + what + ") of another", y.count(what), what == 6 ? 1 : 0);
        }
        due("STRENGTH of another", y.stepOf(0, 1), 10);
        due("RAIN of another", y.weather(0, 8), 8);
        due("status of another", y.status(-1), 0);
        due("image of another", y.tear(), 0);
        due("sheet of another", y.load(0), Due.MISSING);
    }

    /** Promises 2, 4, 7: "becomes v: what it was"; the same again, and nothing beside it. */
    private static void whatItWas() {
        InsideOut x = new InsideOut();
        for (int step = 0; step < 16; step++) {
            due("STRENGTH was", x.step(step, 1, 20 + step), 10);
            due("STRENGTH was the same", x.step(step, 1, 20 + step), 20 + step);
            due("FROM was", x.step(step, 0, step % 3), 0);
            due("ROOF was", x.step(step, 2, step % 2), 0);
        }
        for (int step = 0; step < 16; step++) {
            due("STRENGTH is", x.stepOf(step, 1), 20 + step);
            due("FROM is", x.stepOf(step, 0), step % 3);
            due("ROOF is", x.stepOf(step, 2), step % 2);
        }
        due("RAIN was", x.weather(0, 99), 8);
        due("GUST was, not RAIN", x.weather(1, 0), 20);
        due("RAIN was the greatest", x.weather(0, 0), 99);
        due("GUST was the least", x.weather(1, 99), 0);
        x.umbrella(0);
        x.umbrella(0);
        for (int what = 0; what <= 7; what++) {
            x.change(1, what, 1);
            due("change to the same", x.change(1, what, 1), 1);
            due("of the other", x.of(0, what), what == RIBS ? 8 : 0);
        }
    }

    /** Promises 3, 9, 10: "as a set", of none and of all eight. */
    private static void setsOfNoneAndAll() {
        InsideOut x = new InsideOut();
        due("AT, no UMBRELLAS", x.stepOf(0, 4), 0);
        due("HOME, no UMBRELLAS", x.now(2), 0);
        due("OUT, no UMBRELLAS", x.now(3), 0);
        due("go, no UMBRELLAS", x.go(60), 0);
        x = eight();
        due("AT 0, all", x.stepOf(0, 4), 255);
        due("AT 15, none", x.stepOf(15, 4), 0);
        due("HOME, none", x.now(2), 0);
        for (int u = 0; u < 8; u++) {
            x.change(u, OUT, 1);
            due("OUT, up to " + u, x.now(3), (2 << u) - 1);
        }
        for (int u = 0; u < 8; u++) {
            x.change(u, AT, 15);
        }
        due("AT 15, all", x.stepOf(15, 4), 255);
        due("all come HOME", x.go(1), 255);
        due("HOME, all", x.now(2), 255);
        due("OUT, none", x.now(3), 0);
        due("AT 15, those that are HOME are on no STEP", x.stepOf(15, 4), 0);
        due("all stay HOME", x.go(1), 255);
    }

    /** Promise 5: "its number", the eighth, FULL. */
    private static void eighthUmbrella() {
        InsideOut x = new InsideOut();
        for (int u = 0; u < 8; u++) {
            due("count(1)", x.count(1), u);
            due("umbrella(6)", x.umbrella(6), u);
        }
        due("a ninth", x.umbrella(6), Due.FULL);
        due("count(1)", x.count(1), 8);
        due("the eighth", x.of(7, 0), 6);
    }

    /** Promise 9: "n TICKS (1 to 60)": sixty are as sixty times one. */
    private static void goOnceAndOften() {
        String street = "umbrella;golf habit 1;bent habit 3;paper;binned habit 2;right 2 50;below 5 70;roof 7";
        InsideOut x = Due.from(street);
        InsideOut y = Due.from(street);
        int last = 0;
        for (int i = 0; i < 60; i++) {
            last = y.go(1);
        }
        due("go(60)", x.go(60), last);
        due("TICK", x.now(0), 60);
        for (int u = 0; u < 5; u++) {
            for (int what = 0; what <= 10; what++) {
                due("of(" + u + ", " + what + ")", x.of(u, what), y.of(u, what));
            }
        }
    }

    /** Promises 10 and 41: "of all together", of none and at the greatest. */
    private static void sums() {
        InsideOut x = new InsideOut();
        due("WET of none", x.now(1), 0);
        due("RIBS of none", x.now(4), 0);
        due("TURNED of none", x.now(6), 0);
        due("ROOFS, none", x.now(5), 0);
        x = eight();
        due("RIBS of all", x.now(4), 64);
        for (int u = 0; u < 8; u++) {
            x.change(u, WET, 99999);
            x.change(u, TURNED, 999);
            x.change(u, AT, 16);
        }
        due("WET of all", x.now(1), 799992);
        due("count(3)", x.count(3), 799992);
        due("TURNED of all", x.now(6), 7992);
        due("count(4)", x.count(4), 64);
        due("count(2)", x.count(2), 8);
        for (int u = 0; u < 8; u++) {
            x.change(u, RIBS, 0);
        }
        due("RIBS of all, none left", x.now(4), 0);
        for (int step = 0; step < 16; step++) {
            x.step(step, 2, 1);
            due("ROOFS up to " + step, x.now(5), (2 << step) - 1);
        }
    }

    /** Promise 11: "behind n (0 to 100) TICKS": as now, and as go() makes it. */
    private static void aheadIsWhatGoMakes() {
        String street = "umbrella;golf habit 1;bent habit 3;paper;binned habit 2;small held 1;right 2 50;below 5 70;roof 7";
        for (int u = 0; u < 6; u++) {
            for (int n = 0; n <= 100; n++) {
                InsideOut x = Due.from(street);
                InsideOut y = Due.from(street);
                if (n > 60) {
                    y.go(60);
                }
                if (n % 60 > 0 || n == 60) {
                    y.go(n > 60 ? n - 60 : n);
                }
                for (int what = 1; what <= 7; what++) {
                    due("ahead(" + u + ", " + what + ", " + n + ")", x.ahead(u, what, n), y.of(u, what));
                }
                due("TICK stays", x.now(0), 0);
            }
        }
    }

    /** Promises 12 and 13: "Behind how many TICKS (0 ..)": one that is HOME now. */
    private static void homeNow() {
        InsideOut x = Due.from("umbrella at 16 ribs 3;umbrella at 15");
        x.change(0, OUT, 1);
        x.change(0, WET, 99999);
        x.change(0, TURNED, 999);
        due("home, HOME now", x.home(0), 0);
        due("homeWith WET, as now", x.homeWith(0, 7), 99999);
        due("homeWith TURNED, as now", x.homeWith(0, 6), 999);
        due("homeWith RIBS, as now", x.homeWith(0, 4), 3);
        due("home, a STEP ahead", x.home(1), 1);
        due("homeWith WET, of that TICK", x.homeWith(1, 7), 4);
    }

    /** Promises 12 and 13: NONE. No walk is known that comes HOME only near the 200th TICK. */
    private static void homeNever() {
        InsideOut x = stuck();
        due("home, never", x.home(0), NONE);
        due("homeWith, never", x.homeWith(0, 7), NONE);
        due("ahead(100), still there", x.ahead(0, AT, 100), 0);
        x = Due.from("golf ribs 0");
        // it goes OUT in each even TICK, in which alone it could go on
        due("a GOLF without RIBS", x.home(0), NONE);
        x.step(0, 1, 0);
        x.weather(1, 0);
        due("on from STEP 0, odd TICKS turn it out, even ones bring it on", x.home(0), 31);
    }

    /** Promise 14: "Behind how many TICKS (1 to 200, the fewest)". */
    private static void whupFewest() {
        InsideOut x = Due.from("umbrella at 5;right 5 99;right 6 99");
        due("in the first TICK", x.whup(0), 1);
        x.change(0, AT, 4);
        due("in the second", x.whup(0), 2);
        x.change(0, AT, 16);
        due("HOME", x.whup(0), NONE);
        x.change(0, AT, 7);
        due("behind it", x.whup(0), NONE);
        x = stuck();
        due("OUT for ever", x.whup(0), NONE);
        x.change(0, HELD, 0);
        x.step(1, 0, 1);
        x.step(1, 1, 99);
        due("back first, then out", x.whup(0), 2);
    }

    /** Promise 14: "TURNED .. is more than now": 999 goes no further. */
    private static void whupMore() {
        int[][] rows = {{0, 1}, {998, 1}, {999, -1}};
        for (int[] row : rows) {
            InsideOut x = Due.from("umbrella;right 0 99");
            x.change(0, TURNED, row[0]);
            due("whup, TURNED " + row[0], x.whup(0), row[1] < 0 ? NONE : row[1]);
        }
    }

    /** Promise 15: "HOME first (those that are now, too ..)", the least number of several. */
    private static void firstOfAll() {
        due("no UMBRELLAS", new InsideOut().first(), NONE);
        due("none comes HOME", stuck().first(), NONE);
        InsideOut x = eight();
        due("all alike", x.first(), 0);
        x.change(7, AT, 1);
        due("the eighth", x.first(), 7);
        x.change(6, AT, 1);
        due("the least of two", x.first(), 6);
        x.change(3, AT, 16);
        due("HOME now", x.first(), 3);
        x.change(2, AT, 16);
        due("the least of two that are HOME now", x.first(), 2);
        x = Due.from("golf at 15;paper at 15;umbrella at 15");
        x.go(1);
        for (int u = 0; u < 3; u++) {
            x.change(u, AT, 15);
        }
        due("a GOLF stands at an odd TICK", x.first(), 1);
    }

    /** "of several that would do the least number counts". */
    private static void bestOfEqual() {
        InsideOut x = Due.from("binned at 16 held 3 habit 3;roof 0;roof 1");
        due("habitFor, HOME now", x.habitFor(0), 0);
        due("heldFor, HOME now", x.heldFor(0), 0);
        due("kindFor, HOME now", x.kindFor(0), 0);
        due("roofFor, HOME now", x.roofFor(0), 2);
        due("waitFor, HOME now", x.waitFor(0), 0);
        x = Due.from("binned held 3 habit 3;rain 0;gust 0");
        due("habitFor, no RAIN", x.habitFor(0), 0);
        due("heldFor, no RAIN", x.heldFor(0), 0);
        due("kindFor, no RAIN", x.kindFor(0), 0);
        due("roofFor, no RAIN", x.roofFor(0), 0);
        due("waitFor, no RAIN", x.waitFor(0), 0);
    }

    /** WET goes no further than 99999: then all are as wet. */
    private static void bestAtTheGreatestWet() {
        InsideOut x = Due.from("umbrella habit 3;right 0 81;rain 99");
        x.change(0, WET, 99999);
        due("habitFor, 0 stays out", x.habitFor(0), 1);
        due("kindFor", x.kindFor(0), 0);
        due("roofFor", x.roofFor(0), 0);
        due("waitFor", x.waitFor(0), 0);
        due("homeWith", x.homeWith(0, 7), 99999);
    }

    /** Promise 16: "what doesn't bring it there doesn't count, here and in all that follow". */
    private static void whatDoesNotBringItThere() {
        InsideOut x = stuck();
        due("habitFor, 0 keeps it there", x.habitFor(0), 1);
        due("heldFor, 1 keeps it there", x.heldFor(0), 0);
        due("kindFor, none", x.kindFor(0), NONE);
        due("roofFor, none", x.roofFor(0), NONE);
        due("waitFor, none", x.waitFor(0), NONE);
        due("gustFor, none", x.gustFor(0), NONE);
        due("ribsFor, none", x.ribsFor(0), NONE);
        due("status(3)", x.status(3), 5);
        x.change(0, HABIT, 2);
        x.step(1, 0, 1);
        x.step(2, 0, 1);
        // by habit 2 it looks at STEP 1, whence the wind comes from the right
        due("heldFor, habit 2 keeps it there however it is held", x.heldFor(0), NONE);
        due("habitFor, 0 and 2 keep it there", x.habitFor(0), 1);
    }

    /** Promise 17: "(0 to 3; its HABIT as it is)". */
    private static void heldByHabit() {
        for (int habit = 0; habit <= 3; habit++) {
            InsideOut x = Due.from("umbrella held 1;below 15 99");
            for (int step = 0; step < 16; step++) {
                x.step(step, 0, 2);
            }
            x.step(0, 1, 81);
            x.change(0, HABIT, habit);
            due("heldFor, habit " + habit, x.heldFor(0), habit == 0 ? 2 : 0);
            due("HELD stays", x.of(0, HELD), 1);
        }
        InsideOut x = Due.from("umbrella at 15;left 15 99");
        x.weather(1, 99);
        // towards: out and back, RAIN and half of it; shut: RAIN alone; else it stays there
        due("shut is best", x.heldFor(0), 3);
    }

    /** Promise 19: "(if it has none; those that have one are left out)". */
    private static void roofsLeftOut() {
        InsideOut x = Due.from("umbrella");
        for (int step = 0; step < 16; step++) {
            due("roofFor, the first that has none", x.roofFor(0), step);
            x.step(step, 2, 1);
        }
        due("roofFor, all have one", x.roofFor(0), NONE);
        x.change(0, AT, 16);
        due("roofFor, all have one and it is HOME", x.roofFor(0), NONE);
        x.step(3, 2, 0);
        due("roofFor, one has none and it is HOME", x.roofFor(0), 3);
        due("ROOFS stay", x.now(5), 65535 - 8);
    }

    /**
     * Promise 20: "How many TICKS (0 to 11, the fewest)". All comes again every six TICKS, so the
     * fewest are 5 at most.
     */
    private static void waits() {
        // from TICK 4 on it is turned out once, in three TICKS; from any other it takes more
        int[] want = {4, 3, 2, 1, 0, 5};
        for (int tick = 0; tick < 6; tick++) {
            InsideOut x = Due.from("golf at 16;gust 21;rain 50");
            if (tick > 0) {
                x.go(tick);
            }
            x.change(0, AT, 14);
            due("waitFor at TICK " + tick, x.waitFor(0), want[tick]);
            due("by go() at TICK " + tick, bestWait(x), want[tick]);
            due("TICK stays", x.now(0), tick);
        }
    }

    /** By go() itself: the fewest waits after which it is HOME least wet. */
    private static int bestWait(InsideOut x) {
        x.image();
        int best = -1;
        int wet = 0;
        for (int wait = 0; wait <= 11; wait++) {
            x.undo();
            int at = x.change(0, AT, 16);
            if (wait > 0) {
                x.go(wait);
            }
            x.change(0, AT, at);
            int got = x.homeWith(0, 7);
            if (got >= 0 && (best < 0 || got < wet)) {
                best = wait;
                wet = got;
            }
        }
        x.undo();
        return best;
    }

    /** Promise 21: "The greatest GUST (0 to 99)", NONE. */
    private static void gustEnds() {
        due("99", Due.from("umbrella held 3").gustFor(0), 99);
        due("0", Due.from("umbrella;left 2 80").gustFor(0), 0);
        due("1", Due.from("umbrella;left 2 79").gustFor(0), 1);
        due("none", Due.from("umbrella;left 2 81").gustFor(0), NONE);
        InsideOut x = Due.from("umbrella at 16");
        due("HOME now", x.gustFor(0), 99);
        x = Due.from("small;small;small held 3");
        due("a SMALL bears 110: 98 would do, and 99 too", x.gustFor(0), 99);
        for (int step = 0; step < 16; step++) {
            x.step(step, 1, 12);
        }
        due("a SMALL bears 110, STRENGTH 12", x.gustFor(0), 98);
    }

    /** Promise 22: "The fewest RIBS (0 to 8)", NONE. */
    private static void ribsEnds() {
        due("0, shut", Due.from("umbrella held 3").ribsFor(0), 0);
        due("0, a PAPER", Due.from("paper;gust 0").ribsFor(0), 0);
        due("1", Due.from("umbrella;gust 0").ribsFor(0), 1);
        due("8", Due.from("umbrella ribs 0;gust 70").ribsFor(0), 8);
        due("none", Due.from("umbrella;gust 71").ribsFor(0), NONE);
        due("HOME now", Due.from("umbrella at 16").ribsFor(0), 0);
        due("7", Due.from("umbrella ribs 0;gust 60").ribsFor(0), 7);
        due("8, one more than 7 bear", Due.from("umbrella ribs 0;gust 61").ribsFor(0), 8);
    }

    /** With the GUST told it comes HOME as it is, with any greater one it doesn't. */
    private static void gustAndNoGreater() {
        for (int kind = 0; kind <= 6; kind++) {
            for (int ribs = 0; ribs <= 8; ribs++) {
                InsideOut x = Due.from("umbrella;left 3 2;left 5 0;roof 8");
                x.change(0, 0, kind);
                x.change(0, RIBS, ribs);
                x.change(0, TURNED, 5);
                int told = x.gustFor(0);
                int greatest = -1;
                for (int gust = 0; gust <= 99; gust++) {
                    x.weather(1, gust);
                    if (x.homeWith(0, 6) == 5) {
                        greatest = gust;
                    }
                }
                due("gustFor, KIND " + kind + ", RIBS " + ribs, told, greatest < 0 ? NONE : greatest);
            }
        }
    }

    /** With the RIBS told it comes HOME as it is, with any fewer it doesn't. */
    private static void ribsAndNoFewer() {
        for (int kind = 0; kind <= 6; kind++) {
            for (int gust = 0; gust <= 99; gust += 3) {
                InsideOut x = Due.from("umbrella;left 3 2;left 5 0;roof 8");
                x.change(0, 0, kind);
                x.weather(1, gust);
                int told = x.ribsFor(0);
                int fewest = -1;
                for (int ribs = 8; ribs >= 0; ribs--) {
                    x.change(0, RIBS, ribs);
                    if (x.homeWith(0, 6) == 0) {
                        fewest = ribs;
                    }
                }
                due("ribsFor, KIND " + kind + ", GUST " + gust, told, fewest < 0 ? NONE : fewest);
            }
        }
    }

    private static void fill(InsideOut x, int bits, int... numbers) {
        x.sheet(0, bits, numbers.length);
        for (int i = 0; i < numbers.length; i++) {
            x.write(0, i, numbers[i]);
        }
    }

    /** Where an umbrella of PACE 1 from STEP 0 on is, now and behind 39 TICKS. */
    private static int[] forty() {
        int[] forty = new int[40];
        for (int i = 0; i < 40; i++) {
            forty[i] = Math.min(16, i);
        }
        return forty;
    }

    /** Promise 23: sheets of no numbers, of one and of 40; "(-1: any)"; what is no place. */
    private static void fitsOfSheets() {
        InsideOut x = Due.from("umbrella");
        fill(x, 8);
        due("no numbers", x.fits(0, 0), 15);
        fill(x, 8, 0);
        due("now alone", x.fits(0, 0), 15);
        fill(x, 8, 1);
        due("not there now", x.fits(0, 0), 0);
        fill(x, 8, forty());
        due("forty", x.fits(0, 0), 15);
        x.write(0, 39, 15);
        due("the last of forty isn't so", x.fits(0, 0), 0);
        x.write(0, 39, -1);
        due("the last of forty is any", x.fits(0, 0), 15);
        x.write(0, 0, -1);
        due("the first of forty is any", x.fits(0, 0), 15);
        x.write(0, 0, -2);
        due("-2 is no place", x.fits(0, 0), 0);
        x.write(0, 0, 17);
        due("17 is no place", x.fits(0, 0), 0);
        int[] any = new int[40];
        java.util.Arrays.fill(any, -1);
        for (int bits = 8; bits <= 32; bits *= 2) {
            fill(x, bits, any);
            due("any, " + bits + " bits", x.fits(0, 0), 15);
        }
        x.change(0, OUT, 1);
        x.change(0, HELD, 1);
        fill(x, 8, 0, 0);
        due("only by habit 0 it stays", x.fits(0, 0), 1);
        fill(x, 8, 0, 1);
        due("by all others it goes on", x.fits(0, 0), 14);
    }

    /** Promise 24: likewise, of KINDS. */
    private static void kindsOfSheets() {
        InsideOut x = Due.from("paper;gust 0");
        for (int step = 0; step < 16; step++) {
            x.step(step, 1, 0);
        }
        fill(x, 8);
        due("no numbers", x.kinds(0, 0), 127);
        fill(x, 16, forty());
        due("forty", x.kinds(0, 0), 15);
        x.write(0, 39, 15);
        due("the last of forty isn't so", x.kinds(0, 0), 0);
        int[] any = new int[40];
        java.util.Arrays.fill(any, -1);
        fill(x, 32, any);
        due("any", x.kinds(0, 0), 127);
        x.write(0, 8, 16);
        due("HOME behind 8", x.kinds(0, 0), 48);
        x.write(0, 7, 16);
        due("HOME behind 7", x.kinds(0, 0), 0);
        x.write(0, 7, -1);
        x.write(0, 8, 4);
        due("AT 4 behind 8", x.kinds(0, 0), 64);
        x.write(0, 31, 16);
        due("HOME behind 31", x.kinds(0, 0), 64);
        x.write(0, 30, 16);
        due("HOME behind 30", x.kinds(0, 0), 0);
    }

    /** Promise 25: "how often UMBRELLAS went OUT in these, together". */
    private static void gustsTogether() {
        due("no UMBRELLAS", new InsideOut().gusts(20), 0);
        InsideOut x = eight();
        for (int u = 0; u < 8; u++) {
            x.change(u, RIBS, 0);
            x.change(u, TURNED, 999);
        }
        due("all eight, TURNED as it was", x.gusts(1), 8);
        due("TURNED", x.now(6), 7992);
        due("all back", x.gusts(1), 0);
        x = eight();
        for (int u = 0; u < 8; u++) {
            x.change(u, OUT, 1);
        }
        due("those that were OUT did not go", x.gusts(1), 0);
        x = eight();
        for (int u = 0; u < 8; u++) {
            x.change(u, RIBS, 0);
            x.change(u, AT, 16);
        }
        due("those that are HOME don't", x.gusts(20), 0);
        x = Due.from("umbrella;golf habit 1;bent habit 3;paper;binned habit 2;big at 4;gust 99");
        InsideOut y = Due.from("umbrella;golf habit 1;bent habit 3;paper;binned habit 2;big at 4;gust 99");
        int together = 0;
        for (int i = 0; i < 20; i++) {
            together += y.gusts(1);
        }
        due("twenty at once", x.gusts(20), together);
        due("as often as TURNED tells", together, x.now(6));
        due("z", x.count(6), y.count(6));
        due("TICK", x.count(0), 20);
    }

    /** Promise 26: n 0 and 15, no ROOF and all; "in lowest terms". */
    private static void oddsEnds() {
        InsideOut x = new InsideOut();
        for (int roofs = 0; roofs <= 16; roofs++) {
            for (int n = 0; n <= 15; n++) {
                java.math.BigInteger above = java.math.BigInteger.valueOf(roofs).pow(n);
                java.math.BigInteger below = java.math.BigInteger.valueOf(16).pow(n);
                java.math.BigInteger both = above.gcd(below);
                due(roofs + " ROOFS, odds(" + n + ", 0)", x.odds(n, 0), above.divide(both).longValueExact());
                due(roofs + " ROOFS, odds(" + n + ", 1)", x.odds(n, 1), below.divide(both).longValueExact());
            }
            if (roofs < 16) {
                x.step(15 - roofs, 2, 1);
            }
        }
        due("no finding", x.status(-1), 0);
    }
}
