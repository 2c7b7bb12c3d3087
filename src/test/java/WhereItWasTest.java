/** Promises 23 and 24: habits and kinds by where an umbrella was. */
public final class WhereItWasTest {
    private static final long BEYOND = Due.BEYOND;
    private static final long MISSING = Due.MISSING;

    public static void main(String[] args) {
        fits();
        kinds();
        findings();
        Due.end();
    }

    private static void due(String call, long got, long want) {
        Due.due(call, got, want);
    }

    private static void fill(InsideOut x, int bits, int... numbers) {
        due("sheet", x.sheet(1, bits, numbers.length), numbers.length);
        for (int i = 0; i < numbers.length; i++) {
            due("write", x.write(1, i, numbers[i]), 1);
        }
    }

    private static void dueFits(InsideOut x, int want, int... numbers) {
        fill(x, 8, numbers);
        due("fits", x.fits(1, 0), want);
    }

    private static void dueKinds(InsideOut x, int want, int... numbers) {
        fill(x, 16, numbers);
        due("kinds", x.kinds(1, 0), want);
    }

    private static void fits() {
        InsideOut x = Due.from("umbrella");
        dueFits(x, 15);
        dueFits(x, 15, 0, 1, 2);
        dueFits(x, 15, -1, -1, 2);
        dueFits(x, 0, 1);
        dueFits(x, 0, 0, 1, 3);
        dueFits(x, 0, -2);
        dueFits(x, 15, 255, 255);
        x.step(1, 0, 1);
        x.step(1, 1, 50);
        dueFits(x, 10, 0, 1, 2);
        dueFits(x, 5, 0, 1, 1);
        dueFits(x, 15, 0, 1, -1);
        dueFits(x, 10, -1, -1, -1, 3);
        due("HABIT stays", x.of(0, 3), 0);
        x.change(0, 3, 2);
        dueFits(x, 10, 0, 1, 2);
        fill(x, 32, 0, 1, 255);
        due("fits, 255 is no -1 in 32 bits", x.fits(1, 0), 0);
        fill(x, 16, 0, 1, 65535);
        due("fits, 65535 is -1 in 16 bits", x.fits(1, 0), 15);
        x = Due.from("umbrella at 16");
        dueFits(x, 15, 16, 16, 16);
        dueFits(x, 0, 16, 16, 15);
        x = Due.from("umbrella at 15;rain 0");
        int[] forty = new int[40];
        java.util.Arrays.fill(forty, 16);
        forty[0] = 15;
        dueFits(x, 15, forty);
        forty[39] = 17;
        dueFits(x, 0, forty);
    }

    private static void kinds() {
        InsideOut x = Due.from("umbrella");
        dueKinds(x, 127);
        dueKinds(x, 127, 0);
        dueKinds(x, 48, 0, 2);
        dueKinds(x, 79, 0, 1);
        dueKinds(x, 64, 0, 1, 1);
        dueKinds(x, 15, 0, 1, 2);
        dueKinds(x, 16, -1, -1, 4, 6);
        dueKinds(x, 32, -1, -1, 4, 4);
        dueKinds(x, 0, 0, 3);
        due("KIND stays", x.of(0, 0), 0);
    }

    private static void findings() {
        InsideOut x = new InsideOut();
        x.sheet(3, 8, 0);
        int[] wrong = {-1, 4, Integer.MIN_VALUE, Integer.MAX_VALUE};
        for (int s : wrong) {
            due("fits(" + s + ", 0)", x.fits(s, 0), BEYOND);
            due("kinds(" + s + ", 0)", x.kinds(s, 0), BEYOND);
        }
        for (int u : wrong) {
            due("fits(0, " + u + ")", x.fits(0, u), MISSING);
            due("kinds(0, " + u + ")", x.kinds(0, u), MISSING);
            due("fits(3, " + u + ")", x.fits(3, u), BEYOND);
            due("kinds(3, " + u + ")", x.kinds(3, u), BEYOND);
        }
        due("fits(3, 0)", x.fits(3, 0), BEYOND);
        due("kinds(3, 0)", x.kinds(3, 0), BEYOND);
        x.umbrella(0);
        due("fits(3, 0)", x.fits(3, 0), 15);
        due("kinds(3, 0)", x.kinds(3, 0), 127);
        due("status(0)", x.status(0), 18);
        due("status(5)", x.status(5), 8);
    }
}
