import java.util.Set;

/**
 * For each number that a call takes: the last that is taken and the first that isn't, on either
 * side, and the ends of int. What is beyond answers BEYOND (SIZE where the document says so).
 */
public final class RangesTest {
    private static final int MIN = Integer.MIN_VALUE;
    private static final int MAX = Integer.MAX_VALUE;
    private static final String[] OF_ONE_UMBRELLA = {
        "home", "whup", "habitFor", "heldFor", "kindFor", "roofFor", "waitFor", "gustFor", "ribsFor",
    };

    /** How many umbrellas the objects of a row have. */
    private static int umbrellas = 3;

    public static void main(String[] args) {
        street();
        umbrellasAtFirst();
        for (int n : new int[] {1, 3, 8}) {
            umbrellas = n;
            numbersOfUmbrellas(n - 1);
        }
        umbrellas = 0;
        noUmbrellas();
        umbrellas = 3;
        ticks();
        homeWith();
        gusts();
        spots();
        sheets();
        bits();
        numbersOfSheets();
        copies();
        counts();
        Due.end();
    }

    /** Umbrellas, four sheets of 40 numbers, spots that hold the first umbrella. */
    private static InsideOut prepared() {
        InsideOut x = new InsideOut();
        for (int u = 0; u < umbrellas; u++) {
            x.umbrella(0);
        }
        for (int s = 0; s < 4; s++) {
            x.sheet(s, 8, 40);
        }
        for (int spot = 0; spot < 10 && umbrellas > 0; spot++) {
            x.hold(spot, 0);
        }
        return x;
    }

    /** The number at a place of a call's arguments is taken from lo to hi, and from nowhere else. */
    private static void range(String name, int place, int lo, int hi, int... args) {
        for (int v = lo; v <= hi; v++) {
            taken(name, place, v, args);
        }
        refused(name, place, lo - 1, Due.BEYOND, args);
        refused(name, place, hi + 1, Due.BEYOND, args);
        refused(name, place, MIN, Due.BEYOND, args);
        refused(name, place, MAX, Due.BEYOND, args);
    }

    private static void taken(String name, int place, int v, int... args) {
        InsideOut x = prepared();
        int[] all = args.clone();
        all[place] = v;
        long got = Calls.call(x, name, all);
        Due.due(Calls.told(name, all) + " is BEYOND", got == Due.BEYOND ? 1 : 0, 0);
        Due.due("status(0) behind " + Calls.told(name, all), x.status(0), 0);
    }

    private static void refused(String name, int place, int v, long finding, int... args) {
        InsideOut x = prepared();
        int[] all = args.clone();
        all[place] = v;
        Due.due(Calls.told(name, all), Calls.call(x, name, all), finding);
        Due.due("status behind " + Calls.told(name, all), x.status((int) (Due.BEYOND - finding)), 1);
        Due.due("status(-1) behind " + Calls.told(name, all), x.status(-1), 1);
    }

    /** Promises 2 to 4. */
    private static void street() {
        int[] greatest = {2, 99, 1};
        for (int what = 0; what <= 2; what++) {
            range("step", 0, 0, 15, 0, what, 0);
            range("step", 2, 0, greatest[what], 0, what, 0);
            range("step", 2, 0, greatest[what], 15, what, 0);
        }
        range("step", 1, 0, 2, 0, 0, 0);
        for (int what = 0; what <= 4; what++) {
            range("stepOf", 0, 0, 15, 0, what);
        }
        range("stepOf", 1, 0, 4, 0, 0);
        range("weather", 0, 0, 1, 0, 0);
        range("weather", 1, 0, 99, 0, 0);
        range("weather", 1, 0, 99, 1, 0);
    }

    /** Promises 5 to 8. */
    private static void umbrellasAtFirst() {
        range("umbrella", 0, 0, 6, 0);
        range("of", 1, 0, 10, 0, 0);
        range("change", 1, 0, 7, 0, 0, 0);
        int[] greatest = {6, 16, 3, 3, 8, 1, 999};
        for (int what = 0; what <= 6; what++) {
            range("change", 2, 0, greatest[what], 0, what, 0);
        }
        taken("change", 2, 0, 0, 7, 0);
        taken("change", 2, 99999, 0, 7, 0);
        refused("change", 2, -1, Due.BEYOND, 0, 7, 0);
        refused("change", 2, 100000, Due.BEYOND, 0, 7, 0);
        refused("change", 2, MIN, Due.BEYOND, 0, 7, 0);
        refused("change", 2, MAX, Due.BEYOND, 0, 7, 0);
        range("bears", 1, 0, 15, 0, 0, 0);
        range("bears", 2, 0, 2, 0, 0, 0);
    }

    /** In all calls that take an umbrella's number: 0 to the last one's. */
    private static void numbersOfUmbrellas(int last) {
        for (int what = 0; what <= 10; what++) {
            range("of", 0, 0, last, 0, what);
        }
        for (int what = 0; what <= 7; what++) {
            range("change", 0, 0, last, 0, what, 0);
        }
        range("bears", 0, 0, last, 0, 0, 0);
        for (int what = 1; what <= 7; what++) {
            range("ahead", 0, 0, last, 0, what, 1);
        }
        for (int what : new int[] {4, 6, 7}) {
            range("homeWith", 0, 0, last, 0, what);
        }
        for (String name : OF_ONE_UMBRELLA) {
            range(name, 0, 0, last, 0);
        }
        range("fits", 1, 0, last, 0, 0);
        range("kinds", 1, 0, last, 0, 0);
        range("hold", 1, -1, last, 0, 0);
    }

    private static void noUmbrellas() {
        for (int u : new int[] {-1, 0, 1, 7, 8, MIN, MAX}) {
            refused("of", 0, u, Due.BEYOND, 0, 0);
            refused("change", 0, u, Due.BEYOND, 0, 0, 0);
            refused("bears", 0, u, Due.BEYOND, 0, 0, 0);
            refused("ahead", 0, u, Due.BEYOND, 0, 1, 0);
            refused("homeWith", 0, u, Due.BEYOND, 0, 7);
            for (String name : OF_ONE_UMBRELLA) {
                refused(name, 0, u, Due.BEYOND, 0);
            }
            refused("fits", 1, u, Due.BEYOND, 0, 0);
            refused("kinds", 1, u, Due.BEYOND, 0, 0);
        }
        range("hold", 1, -1, -1, 0, 0);
    }

    /** Promises 9 to 11. */
    private static void ticks() {
        range("go", 0, 1, 60, 1);
        range("now", 0, 0, 6, 0);
        range("ahead", 1, 1, 7, 0, 1, 0);
        range("ahead", 1, 1, 7, 0, 1, 100);
        range("ahead", 2, 0, 100, 0, 1, 0);
    }

    /** Promise 13: WET (7), TURNED (6), RIBS (4), and no other. */
    private static void homeWith() {
        Set<Integer> taken = Set.of(4, 6, 7);
        for (int what = -1; what <= 11; what++) {
            if (taken.contains(what)) {
                taken("homeWith", 1, what, 0, 0);
            } else {
                refused("homeWith", 1, what, Due.BEYOND, 0, 0);
            }
        }
        refused("homeWith", 1, MIN, Due.BEYOND, 0, 0);
        refused("homeWith", 1, MAX, Due.BEYOND, 0, 0);
    }

    /** Promises 25 to 28. */
    private static void gusts() {
        range("gusts", 0, 1, 20, 1);
        range("odds", 0, 0, 15, 0, 0);
        range("odds", 0, 0, 15, 0, 1);
        range("odds", 1, 0, 1, 0, 0);
        range("odds", 1, 0, 1, 15, 0);
        for (int v : new int[] {MIN, -1000007, -1, 0, 1, MAX}) {
            taken("seed", 0, v, 0);
            taken("feed", 0, v, 0, 4);
        }
        range("feed", 1, 1, 4, 0, 1);
    }

    /** Promises 31 and 32. */
    private static void spots() {
        range("hold", 0, 0, 9, 0, 0);
        range("hold", 0, 0, 9, 0, -1);
        refused("hold", 1, -2, Due.BEYOND, 0, 0);
        range("as", 0, 0, 9, 0, 0);
        range("as", 1, 0, 6, 0, 0);
    }

    /** In all calls that take a sheet's number: 0 to 3. */
    private static void sheets() {
        range("fits", 0, 0, 3, 0, 0);
        range("kinds", 0, 0, 3, 0, 0);
        for (int bits : new int[] {0, 8, 16, 32}) {
            range("sheet", 0, 0, 3, 0, bits, 0);
        }
        range("write", 0, 0, 3, 0, 0, 0);
        range("copy", 0, 0, 3, 0, 0, 1, 0, 1);
        range("copy", 2, 0, 3, 0, 0, 1, 0, 1);
        range("load", 0, 0, 3, 0);
        range("judge", 0, 0, 3, 0);
    }

    /** Promise 33: 8, 16 or 32 bits, or 0; n 0 to 40, below 0 it is SIZE. */
    private static void bits() {
        Set<Integer> taken = Set.of(0, 8, 16, 32);
        for (int bits = -33; bits <= 65; bits++) {
            if (taken.contains(bits)) {
                taken("sheet", 1, bits, 0, 0, 1);
            } else {
                refused("sheet", 1, bits, Due.BEYOND, 0, 0, 1);
            }
        }
        refused("sheet", 1, MIN, Due.BEYOND, 0, 0, 1);
        refused("sheet", 1, MAX, Due.BEYOND, 0, 0, 1);
        for (int bits : taken) {
            for (int n = 0; n <= 40; n++) {
                taken("sheet", 2, n, 0, bits, 0);
            }
            refused("sheet", 2, -1, Due.SIZE, 0, bits, 0);
            refused("sheet", 2, MIN, Due.SIZE, 0, bits, 0);
            refused("sheet", 2, 41, Due.BEYOND, 0, bits, 0);
            refused("sheet", 2, MAX, Due.BEYOND, 0, bits, 0);
        }
    }

    /** Promise 34: the numbers 0 to 39 of a sheet of 40; any v. */
    private static void numbersOfSheets() {
        range("write", 1, 0, 39, 0, 0, 0);
        for (int v : new int[] {MIN, -129, -1, 0, 255, 65536, MAX}) {
            taken("write", 2, v, 0, 0, 0);
        }
    }

    /** Promise 35: from, to and n within 40 numbers, none of them below 0. */
    private static void copies() {
        range("copy", 1, 0, 40, 0, 0, 1, 0, 0);
        range("copy", 3, 0, 40, 0, 0, 1, 0, 0);
        range("copy", 1, 0, 39, 0, 0, 1, 0, 1);
        range("copy", 3, 0, 39, 0, 0, 1, 0, 1);
        range("copy", 4, 0, 40, 0, 0, 1, 0, 0);
        range("copy", 4, 0, 30, 0, 10, 1, 0, 0);
        range("copy", 4, 0, 30, 0, 0, 1, 10, 0);
        range("copy", 4, 0, 0, 0, 40, 1, 0, 0);
    }

    /** Promises 41 and 42. */
    private static void counts() {
        range("count", 0, 0, 7, 0);
        range("status", 0, -1, 6, 0);
    }
}
