/** The edges that the document's terms name, a test for each sentence; its words stand ahead of it. */
public final class TermEdgesTest {
    private static final int KIND = 0;
    private static final int AT = 1;
    private static final int HELD = 2;
    private static final int HABIT = 3;
    private static final int RIBS = 4;
    private static final int OUT = 5;
    private static final int TURNED = 6;
    private static final int WET = 7;
    private static final int STIFF = 8;
    private static final int COVERS = 9;
    private static final int PACE = 10;

    public static void main(String[] args) {
        windByTick();
        windBeneathARoof();
        stiffOfBig();
        stiffOfGolf();
        stiffOfSmall();
        stiffOfBent();
        stiffOfBinned();
        stiffOfPaper();
        bearsTowards();
        bearsAcross();
        bearsElse();
        coversNoMoreThanRain();
        coversCut();
        coversOfBent();
        coversOfBinned();
        coversOfPaper();
        paces();
        habitNought();
        habitOfTheNextStep();
        habitShut();
        whoIsHomeStays();
        goesOutAbove();
        comesBack();
        turnedAtMost();
        ribsAtLeast();
        wetAtMost();
        wetOfWhoIsShutOrOut();
        notBeneathARoof();
        homeAtMost();
        ribsCountFromTheNextTick();
        eachByItself();
        drawsWrapAround();
        Due.end();
    }

    private static void due(String call, long got, long want) {
        Due.due(call, got, want);
    }

    private static InsideOut one(int kind) {
        InsideOut x = new InsideOut();
        due("umbrella(" + kind + ")", x.umbrella(kind), 0);
        return x;
    }

    /** One of RIBS, HELD some way, at STEP 0 with the wind from somewhere. */
    private static InsideOut windy(int kind, int ribs, int held, int from, int strength) {
        InsideOut x = one(kind);
        x.change(0, RIBS, ribs);
        x.change(0, HELD, held);
        x.step(0, 0, from);
        x.step(0, 1, strength);
        return x;
    }

    /** "WIND of a STEP: STRENGTH, and GUST, if TICK leaves 2 by 3". */
    private static void windByTick() {
        InsideOut x = new InsideOut();
        for (int tick = 0; tick < 9; tick++) {
            due("WIND, TICK " + tick, x.stepOf(0, 3), tick % 3 == 2 ? 30 : 10);
            x.go(1);
        }
        x.go(2);
        x.step(15, 1, 99);
        x.weather(1, 99);
        due("the greatest WIND", x.stepOf(15, 3), 198);
        x.weather(1, 0);
        due("a GUST of 0", x.stepOf(15, 3), 99);
        x.step(15, 1, 0);
        due("the least WIND", x.stepOf(15, 3), 0);
    }

    /** "beneath a ROOF half (cut) of that". */
    private static void windBeneathARoof() {
        int[][] rows = {{0, 0}, {1, 0}, {2, 1}, {3, 1}, {98, 49}, {99, 49}};
        InsideOut x = new InsideOut();
        x.step(0, 2, 1);
        for (int[] row : rows) {
            x.step(0, 1, row[0]);
            due("WIND beneath a ROOF, STRENGTH " + row[0], x.stepOf(0, 3), row[1]);
        }
        x.go(2);
        x.weather(1, 99);
        due("the greatest beneath a ROOF", x.stepOf(0, 3), 99);
        x.step(0, 1, 1);
        x.weather(1, 1);
        due("half of both together, not of each", x.stepOf(0, 3), 1);
        x.weather(1, 2);
        due("half of 3", x.stepOf(0, 3), 1);
    }

    private static void stiff(int kind, int ribs, int wet, int want) {
        InsideOut x = one(kind);
        x.change(0, RIBS, ribs);
        x.change(0, WET, wet);
        due("STIFF of KIND " + kind + ", RIBS " + ribs + ", WET " + wet, x.of(0, STIFF), want);
    }

    /** "BIG: as an UMBRELLA, less 10 (0 at least)"; an UMBRELLA's is 5 times RIBS. */
    private static void stiffOfBig() {
        int[] umbrella = {0, 5, 10, 15, 20, 25, 30, 35, 40};
        int[] big = {0, 0, 0, 5, 10, 15, 20, 25, 30};
        for (int ribs = 0; ribs <= 8; ribs++) {
            stiff(0, ribs, 99999, umbrella[ribs]);
            stiff(1, ribs, 99999, big[ribs]);
        }
    }

    /** "GOLF: half (cut) of a BIG". */
    private static void stiffOfGolf() {
        int[] golf = {0, 0, 0, 2, 5, 7, 10, 12, 15};
        for (int ribs = 0; ribs <= 8; ribs++) {
            stiff(6, ribs, 99999, golf[ribs]);
        }
    }

    /** "SMALL: as an UMBRELLA, and 15". */
    private static void stiffOfSmall() {
        int[] small = {15, 20, 25, 30, 35, 40, 45, 50, 55};
        for (int ribs = 0; ribs <= 8; ribs++) {
            stiff(2, ribs, 99999, small[ribs]);
        }
    }

    /** "BENT: as a SMALL, less a hundredth (cut) of WET (0 at least)". */
    private static void stiffOfBent() {
        stiff(3, 8, 0, 55);
        stiff(3, 8, 99, 55);
        stiff(3, 8, 100, 54);
        stiff(3, 8, 199, 54);
        stiff(3, 8, 200, 53);
        stiff(3, 8, 5499, 1);
        stiff(3, 8, 5500, 0);
        stiff(3, 8, 5600, 0);
        stiff(3, 8, 99999, 0);
        stiff(3, 0, 1499, 1);
        stiff(3, 0, 1500, 0);
        stiff(3, 0, 1600, 0);
    }

    /** "BINNED: half (cut) of a BENT". */
    private static void stiffOfBinned() {
        stiff(4, 8, 0, 27);
        stiff(4, 8, 100, 27);
        stiff(4, 8, 199, 27);
        stiff(4, 8, 200, 26);
        stiff(4, 8, 5399, 1);
        stiff(4, 8, 5400, 0);
        stiff(4, 8, 99999, 0);
        stiff(4, 0, 0, 7);
        stiff(4, 1, 0, 10);
    }

    /** "PAPER: 5". */
    private static void stiffOfPaper() {
        for (int ribs = 0; ribs <= 8; ribs++) {
            stiff(5, ribs, 0, 5);
            stiff(5, ribs, 99999, 5);
        }
    }

    /** "BEARS: twice STIFF, if it is HELD towards FROM". */
    private static void bearsTowards() {
        for (int from = 0; from <= 2; from++) {
            due("from " + from, windy(0, 8, 3, from, 0).bears(0, 0, from), 80);
            due("from " + from + ", RIBS 0", windy(0, 0, 3, from, 0).bears(0, 0, from), 0);
            due("from " + from + ", a SMALL", windy(2, 8, 3, from, 0).bears(0, 0, from), 110);
        }
    }

    /** "half (cut) of it, if it is HELD towards left and the wind comes from the right, or the other way round". */
    private static void bearsAcross() {
        due("left, from right", windy(0, 8, 0, 1, 0).bears(0, 0, 0), 20);
        due("right, from left", windy(0, 8, 0, 0, 0).bears(0, 0, 1), 20);
        due("left, from right, cut", windy(0, 7, 0, 1, 0).bears(0, 0, 0), 17);
        due("right, from left, cut", windy(0, 1, 0, 0, 0).bears(0, 0, 1), 2);
        due("a PAPER across, cut", windy(5, 8, 0, 0, 0).bears(0, 0, 1), 2);
    }

    /** "else STIFF": below, and from below. */
    private static void bearsElse() {
        due("below, from left", windy(0, 7, 0, 0, 0).bears(0, 0, 2), 35);
        due("below, from right", windy(0, 7, 0, 1, 0).bears(0, 0, 2), 35);
        due("left, from below", windy(0, 7, 0, 2, 0).bears(0, 0, 0), 35);
        due("right, from below", windy(0, 7, 0, 2, 0).bears(0, 0, 1), 35);
    }

    private static void covers(int kind, int rain, int wet, int want) {
        InsideOut x = one(kind);
        x.weather(0, rain);
        x.change(0, WET, wet);
        due("COVERS of KIND " + kind + ", RAIN " + rain + ", WET " + wet, x.of(0, COVERS), want);
    }

    /** "COVERS (.. no more than RAIN)": of a GOLF and a PAPER. */
    private static void coversNoMoreThanRain() {
        int[] golf = {0, 1, 2, 3, 4, 5, 6, 6, 8, 8, 9};
        int[] paper = {0, 1, 2, 3, 4, 4, 4, 4, 4, 4, 4};
        for (int rain = 0; rain <= 10; rain++) {
            covers(6, rain, 0, golf[rain]);
            covers(5, rain, 0, paper[rain]);
        }
        covers(6, 99, 0, 75);
        covers(5, 99, 0, 4);
    }

    /** "half (cut) of RAIN", "and a quarter (cut)", "a third (cut)". */
    private static void coversCut() {
        int[] umbrella = {0, 0, 1, 1, 2, 2, 3, 3, 4};
        int[] big = {0, 0, 1, 1, 3, 3, 4, 4, 6};
        int[] small = {0, 0, 0, 1, 1, 1, 2, 2, 2};
        for (int rain = 0; rain <= 8; rain++) {
            covers(0, rain, 0, umbrella[rain]);
            covers(1, rain, 0, big[rain]);
            covers(2, rain, 0, small[rain]);
        }
        covers(0, 99, 0, 49);
        covers(1, 99, 0, 49 + 24);
        covers(2, 99, 0, 33);
        covers(2, 98, 0, 32);
    }

    /** "BENT: as a SMALL, less 1 (0 at least)". */
    private static void coversOfBent() {
        int[] bent = {0, 0, 0, 0, 0, 0, 1, 1, 1, 2};
        for (int rain = 0; rain <= 9; rain++) {
            covers(3, rain, 0, bent[rain]);
        }
        covers(3, 99, 0, 32);
    }

    /** "BINNED: as a BENT, if TICK is even, else 0". */
    private static void coversOfBinned() {
        InsideOut x = one(4);
        x.weather(0, 9);
        x.change(0, AT, 16);
        for (int tick = 0; tick < 4; tick++) {
            due("COVERS of a BINNED, TICK " + tick, x.of(0, COVERS), tick % 2 == 0 ? 2 : 0);
            x.go(1);
        }
        x.weather(0, 2);
        due("COVERS of a BINNED, as of a BENT", x.of(0, COVERS), 0);
    }

    /** "PAPER: 4, as long as WET is below 50, else 0". */
    private static void coversOfPaper() {
        covers(5, 99, 0, 4);
        covers(5, 99, 49, 4);
        covers(5, 99, 50, 0);
        covers(5, 99, 51, 0);
        covers(5, 99, 99999, 0);
        InsideOut x = one(5);
        x.weather(1, 0);
        x.change(0, WET, 49);
        x.go(1);
        due("WET before the TICK counts: below 50", x.of(0, WET), 53);
        x.go(1);
        due("WET before the TICK counts: 50 or more", x.of(0, WET), 61);
    }

    /** "GOLF: 1, if TICK is even, else 0", "BINNED: twice a BENT", "PAPER: 2". */
    private static void paces() {
        int[] even = {1, 1, 1, 1, 2, 2, 1};
        int[] odd = {1, 1, 1, 1, 2, 2, 0};
        for (int kind = 0; kind <= 6; kind++) {
            InsideOut x = one(kind);
            x.step(0, 1, 0);
            x.weather(1, 0);
            due("PACE of KIND " + kind + ", TICK 0", x.of(0, PACE), even[kind]);
            x.go(1);
            due("AT of KIND " + kind + ", TICK 1", x.of(0, AT), even[kind]);
            due("PACE of KIND " + kind + ", TICK 1", x.of(0, PACE), odd[kind]);
            x.go(1);
            due("AT of KIND " + kind + ", TICK 2", x.of(0, AT), even[kind] + odd[kind]);
            due("PACE of KIND " + kind + ", TICK 2", x.of(0, PACE), even[kind]);
        }
    }

    /** "0 it is HELD as it is", shut too. */
    private static void habitNought() {
        for (int held = 0; held <= 3; held++) {
            InsideOut x = windy(0, 8, held, 2, 10);
            x.go(1);
            due("HELD " + held + " stays", x.of(0, HELD), held);
        }
    }

    /** "2: towards FROM of the next STEP (of STEP 15: of that)". */
    private static void habitOfTheNextStep() {
        InsideOut x = one(0);
        x.change(0, HABIT, 2);
        x.step(13, 0, 1);
        x.step(14, 0, 0);
        x.step(15, 0, 2);
        x.change(0, AT, 13);
        x.go(1);
        due("AT 13 towards FROM of 14", x.of(0, HELD), 0);
        due("AT", x.of(0, AT), 14);
        x.go(1);
        due("AT 14 towards FROM of 15", x.of(0, HELD), 2);
        due("AT", x.of(0, AT), 15);
        x.change(0, HELD, 0);
        x.go(1);
        due("AT 15 towards FROM of 15", x.of(0, HELD), 2);
        due("HOME", x.of(0, AT), 16);
    }

    /** "3: towards FROM of its STEP, but shut, if WIND is above what it BEARS so". */
    private static void habitShut() {
        for (int from = 0; from <= 2; from++) {
            InsideOut x = windy(0, 8, 3, from, 80);
            x.change(0, HABIT, 3);
            x.go(1);
            due("as much as it BEARS", x.of(0, HELD), from);
            x = windy(0, 8, 0, from, 81);
            x.change(0, HABIT, 3);
            x.go(1);
            due("1 above what it BEARS", x.of(0, HELD), 3);
            due("shut, it goes on", x.of(0, AT), 1);
            due("shut, it isn't OUT", x.of(0, OUT), 0);
            due("shut, it is not TURNED", x.of(0, TURNED), 0);
        }
    }

    /** "A TICK goes by, for each UMBRELLA that isn't HOME". */
    private static void whoIsHomeStays() {
        for (int habit = 0; habit <= 3; habit++) {
            InsideOut x = one(5);
            x.step(15, 0, 2);
            x.step(15, 1, 99);
            int[] marks = {5, 16, 1, habit, 3, 1, 7, 11};
            for (int what = 0; what < marks.length; what++) {
                x.change(0, what, marks[what]);
            }
            due("go(60)", x.go(60), 1);
            for (int what = 0; what < marks.length; what++) {
                due("HOME, habit " + habit + ", of " + what, x.of(0, what), marks[what]);
            }
        }
    }

    /** "it goes OUT, if WIND is above what it BEARS: TURNED is 1 more, RIBS are 1 less". */
    private static void goesOutAbove() {
        int[][] rows = {{0, 0, 80}, {0, 1, 20}, {0, 2, 40}, {1, 0, 20}, {1, 1, 80}, {1, 2, 40}, {2, 0, 40}, {2, 1, 40}, {2, 2, 80}};
        for (int[] row : rows) {
            for (int more = 0; more <= 1; more++) {
                InsideOut x = windy(0, 8, row[0], row[1], row[2] + more);
                x.go(1);
                String told = "HELD " + row[0] + ", from " + row[1] + ", WIND " + (row[2] + more);
                due(told + ": OUT", x.of(0, OUT), more);
                due(told + ": TURNED", x.of(0, TURNED), more);
                due(told + ": RIBS", x.of(0, RIBS), 8 - more);
                due(told + ": AT", x.of(0, AT), 1 - more);
            }
        }
        InsideOut x = windy(0, 0, 0, 0, 0);
        x.go(1);
        due("no WIND and no RIBS: 0 is not above 0", x.of(0, OUT), 0);
        x = windy(0, 0, 0, 0, 1);
        x.go(1);
        due("WIND 1 and no RIBS", x.of(0, OUT), 1);
    }

    /** "If it is OUT: it isn't any more, if it is HELD towards FROM". */
    private static void comesBack() {
        for (int held = 0; held <= 3; held++) {
            for (int from = 0; from <= 2; from++) {
                InsideOut x = windy(0, 8, held, from, 99);
                x.change(0, OUT, 1);
                x.go(1);
                String told = "HELD " + held + ", from " + from;
                due(told + ": OUT", x.of(0, OUT), held == from ? 0 : 1);
                due(told + ": AT", x.of(0, AT), held == from ? 1 : 0);
                due(told + ": WET", x.of(0, WET), held == from ? 4 : 8);
                due(told + ": TURNED", x.of(0, TURNED), 0);
                due(told + ": RIBS", x.of(0, RIBS), 8);
            }
        }
    }

    /** "TURNED is 1 more (999 at most)". */
    private static void turnedAtMost() {
        int[][] rows = {{0, 1}, {997, 998}, {998, 999}, {999, 999}};
        for (int[] row : rows) {
            InsideOut x = windy(0, 8, 0, 1, 99);
            x.change(0, TURNED, row[0]);
            x.go(1);
            due("TURNED from " + row[0], x.of(0, TURNED), row[1]);
            due("OUT all the same", x.of(0, OUT), 1);
            due("RIBS all the same", x.of(0, RIBS), 7);
        }
    }

    /** "RIBS are 1 less (0 at least)". */
    private static void ribsAtLeast() {
        for (int ribs = 0; ribs <= 8; ribs++) {
            InsideOut x = windy(0, ribs, 0, 1, 99);
            x.go(1);
            due("RIBS from " + ribs, x.of(0, RIBS), ribs == 0 ? 0 : ribs - 1);
            due("TURNED", x.of(0, TURNED), 1);
        }
    }

    /** "WET is more by RAIN, less what it COVERS (.. 99999 at most)". */
    private static void wetAtMost() {
        int[][] rows = {{99994, 99998}, {99995, 99999}, {99996, 99999}, {99998, 99999}, {99999, 99999}};
        for (int[] row : rows) {
            InsideOut x = one(0);
            x.change(0, WET, row[0]);
            x.go(1);
            due("WET from " + row[0], x.of(0, WET), row[1]);
        }
        InsideOut x = one(0);
        x.weather(0, 0);
        x.go(16);
        due("without RAIN", x.of(0, WET), 0);
        x = one(0);
        x.weather(0, 1);
        x.go(1);
        due("RAIN 1, half of which is 0", x.of(0, WET), 1);
    }

    /** "what it COVERS (0, if it is shut or OUT)". */
    private static void wetOfWhoIsShutOrOut() {
        InsideOut x = one(6);
        x.go(1);
        due("a GOLF, open", x.of(0, WET), 0);
        x = one(6);
        x.change(0, HELD, 3);
        x.go(1);
        due("a GOLF, shut", x.of(0, WET), 8);
        x = windy(6, 8, 1, 0, 99);
        x.go(1);
        due("a GOLF that goes OUT in this TICK", x.of(0, WET), 8);
        x = windy(6, 8, 0, 0, 99);
        x.change(0, OUT, 1);
        x.go(1);
        due("a GOLF that is back in this TICK", x.of(0, WET), 0);
    }

    /** "not beneath a ROOF": neither one that is open nor one that is shut or OUT. */
    private static void notBeneathARoof() {
        int[][] rows = {{0, 0}, {3, 0}, {1, 1}};
        for (int[] row : rows) {
            InsideOut x = one(0);
            x.step(0, 2, 1);
            x.weather(0, 99);
            x.change(0, HELD, row[0]);
            x.change(0, OUT, row[1]);
            x.change(0, WET, 5);
            x.go(1);
            due("beneath a ROOF, HELD " + row[0], x.of(0, WET), 5);
        }
        InsideOut x = one(0);
        x.step(1, 2, 1);
        x.go(1);
        due("the ROOF of the STEP from which it goes counts", x.of(0, WET), 4);
        x.go(1);
        due("and not of that to which it comes", x.of(0, WET), 4);
    }

    /** "it goes PACE STEPS on (HOME at most)". */
    private static void homeAtMost() {
        for (int kind = 0; kind <= 6; kind++) {
            int pace = kind == 4 || kind == 5 ? 2 : 1;
            for (int at = 13; at <= 15; at++) {
                InsideOut x = one(kind);
                x.change(0, AT, at);
                due("go(1)", x.go(1), at + pace >= 16 ? 1 : 0);
                due("KIND " + kind + " from " + at, x.of(0, AT), Math.min(16, at + pace));
            }
        }
    }

    /** The ribs lost in a TICK are missed from the next one on. */
    private static void ribsCountFromTheNextTick() {
        InsideOut x = windy(0, 8, 0, 0, 81);
        x.go(2);
        due("back and on", x.of(0, AT), 1);
        x.step(1, 1, 71);
        x.weather(1, 0);
        x.go(1);
        due("RIBS 7 bear 70", x.of(0, OUT), 1);
        due("RIBS", x.of(0, RIBS), 6);
    }

    /** "for each UMBRELLA": all eight, none by another. */
    private static void eachByItself() {
        InsideOut x = new InsideOut();
        for (int u = 0; u < 8; u++) {
            x.umbrella(0);
            x.change(u, AT, 2 * u);
        }
        x.step(6, 1, 99);
        x.go(1);
        for (int u = 0; u < 8; u++) {
            due("AT of " + u, x.of(u, AT), u == 3 ? 6 : 2 * u + 1);
            due("KIND of " + u, x.of(u, KIND), 0);
        }
        due("OUT", x.now(3), 8);
        due("the eighth comes HOME", x.go(1), 128);
    }

    /** "each makes it z * 1103515245 + 12345 (an int), and gives z >>> 8". */
    private static void drawsWrapAround() {
        int[] seeds = {0, 1, -1, Integer.MIN_VALUE, Integer.MAX_VALUE, 1103515245, -12345};
        for (int seed : seeds) {
            InsideOut x = new InsideOut();
            x.seed(seed);
            long z = wrapped(seed);
            int step = (int) ((z & 0xffffffffL) / 256 % 16);
            z = wrapped(z);
            int strength = (int) ((z & 0xffffffffL) / 256 % 60);
            due("gusts(1) from " + seed, x.gusts(1), 0);
            due("z from " + seed, x.count(6), z);
            for (int s = 0; s < 16; s++) {
                due("STRENGTH of " + s + " from " + seed, x.stepOf(s, 1), s == step ? strength : 10);
            }
        }
    }

    /** The next z in wide numbers, cut to 32 bits with a sign. */
    private static long wrapped(long z) {
        long wide = java.math.BigInteger.valueOf(z).multiply(java.math.BigInteger.valueOf(1103515245))
            .add(java.math.BigInteger.valueOf(12345)).mod(java.math.BigInteger.ONE.shiftLeft(32)).longValueExact();
        return wide >= 1L << 31 ? wide - (1L << 32) : wide;
    }
}
