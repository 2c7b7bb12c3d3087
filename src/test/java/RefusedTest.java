import java.util.ArrayList;
import java.util.List;

/**
 * Each finding of each act, and which of two findings comes first. A refused call changes nothing
 * but status(): of two objects made alike one gets the refused call, and both then tell the same.
 */
public final class RefusedTest {
    private static final long BEYOND = Due.BEYOND;
    private static final long FULL = Due.FULL;
    private static final long KIND = Due.KIND;
    private static final long NONE = Due.NONE;
    private static final long MISSING = Due.MISSING;
    private static final long SIZE = Due.SIZE;

    private enum State { NEW, RICH, CROWDED }

    public static void main(String[] args) {
        numbers();
        streetAndUmbrellas();
        whatWillBe();
        whereItWas();
        gustsAndTexts();
        spots();
        sheets();
        copies();
        images();
        state();
        notRefused();
        Due.end();
    }

    private static InsideOut made(State state) {
        switch (state) {
            case NEW:
                return new InsideOut();
            case RICH:
                return rich();
            default:
                return crowded();
        }
    }

    /**
     * Three umbrellas, the last of which can't come HOME; an image of two of them; a tape; sheets
     * of 40 numbers, of 3 and of none, the last MISSING; a spot that holds a PAPER.
     */
    private static InsideOut rich() {
        InsideOut x = Due.from("bent at 3 ribs 5 held 1 habit 2;paper at 1;right 4 44;roof 9;rain 33;gust 12");
        x.image();
        x.umbrella(0);
        x.change(2, 5, 1);
        x.change(2, 2, 1);
        x.go(2);
        x.hold(0, 1);
        x.hold(9, 2);
        x.seed(4711);
        Due.feed(x, "gust 3;");
        x.sheet(0, 8, 40);
        for (int i = 0; i < 40; i++) {
            x.write(0, i, 2 * i + 1);
        }
        x.sheet(1, 16, 3);
        x.write(1, 1, 77);
        x.sheet(2, 8, 0);
        return x;
    }

    /** Eight umbrellas, 120 bytes, no image. */
    private static InsideOut crowded() {
        InsideOut x = Due.from("big;small;golf;paper;umbrella;bent;binned;big at 16");
        StringBuilder text = new StringBuilder("rain 5");
        while (text.length() < 120) {
            text.append(' ');
        }
        Due.feed(x, text.toString());
        return x;
    }

    private static void refused(State state, long finding, String name, int... args) {
        InsideOut x = made(state);
        InsideOut twin = made(state);
        String told = Calls.told(name, args) + " of " + state;
        Due.due(told, Calls.call(x, name, args), finding);
        for (int which = 0; which <= 6; which++) {
            int more = which == BEYOND - finding ? 1 : 0;
            Due.due("status(" + which + ") behind " + told, x.status(which), twin.status(which) + more);
        }
        Due.due("status(-1) behind " + told, x.status(-1), twin.status(-1) + 1);
        List<Long> got = seen(x);
        List<Long> want = seen(twin);
        Due.due("how much is seen behind " + told, got.size(), want.size());
        for (int i = 0; i < got.size(); i++) {
            Due.due("sight " + i + " behind " + told, got.get(i), want.get(i));
        }
    }

    /** All that can be seen of an object; it is of no use behind that. */
    private static List<Long> seen(InsideOut x) {
        List<Long> seen = new ArrayList<>();
        seeWorld(x, seen);
        for (int spot = 0; spot < 10; spot++) {
            seen.add((long) x.as(spot, 0));
        }
        for (int s = 0; s < 4; s++) {
            seeStrengths(x, s, seen);
        }
        x.sheet(3, 8, 16);
        seen.add((long) x.copy(0, 16, 3, 0, 16));
        seeStrengths(x, 3, seen);
        seen.add((long) x.copy(0, 24, 3, 0, 16));
        seeStrengths(x, 3, seen);
        seen.add((long) x.text());
        seen.add((long) x.weather(0, 0));
        seen.add((long) x.weather(1, 0));
        seen.add((long) x.undo());
        seeWorld(x, seen);
        seen.add((long) x.weather(0, 0));
        seen.add((long) x.tear());
        return seen;
    }

    private static void seeWorld(InsideOut x, List<Long> seen) {
        for (int what = 0; what <= 7; what++) {
            seen.add((long) x.count(what));
        }
        for (int what = 0; what <= 6; what++) {
            seen.add((long) x.now(what));
        }
        for (int step = 0; step < 16; step++) {
            seen.add((long) x.stepOf(step, 0));
            seen.add((long) x.stepOf(step, 3));
        }
        for (int u = 0; u < x.count(1); u++) {
            for (int what = 0; what <= 7; what++) {
                seen.add((long) x.of(u, what));
            }
        }
    }

    private static void seeStrengths(InsideOut x, int s, List<Long> seen) {
        long came = x.load(s);
        seen.add(came);
        for (int step = 0; step < came; step++) {
            seen.add((long) x.stepOf(step, 1));
        }
    }

    /** LOW is -1000001; the others stand below it, one by one, in longs too. */
    private static void numbers() {
        Due.due("BEYOND", new InsideOut().now(-1), -1000001);
        Due.due("FULL", made(State.CROWDED).umbrella(0), -1000002);
        Due.due("KIND", made(State.RICH).as(0, 1), -1000003);
        Due.due("NONE", new InsideOut().first(), -1000004);
        Due.due("MISSING", new InsideOut().load(0), -1000006);
        Due.due("SIZE", new InsideOut().sheet(0, 8, -1), -1000007);
        Due.due("BEYOND in longs", new InsideOut().odds(16, 0), -1000001L);
    }

    private static void streetAndUmbrellas() {
        refused(State.RICH, BEYOND, "step", 16, 0, 1);
        refused(State.RICH, BEYOND, "step", -1, 1, 1);
        refused(State.RICH, BEYOND, "step", 4, 0, 3);
        refused(State.RICH, BEYOND, "step", 4, 1, 100);
        refused(State.RICH, BEYOND, "step", 4, 2, 2);
        refused(State.RICH, BEYOND, "step", 4, 3, 0);
        refused(State.RICH, BEYOND, "stepOf", 16, 4);
        refused(State.RICH, BEYOND, "weather", 0, 100);
        refused(State.RICH, BEYOND, "weather", 1, -1);
        refused(State.RICH, BEYOND, "weather", 2, 1);
        refused(State.RICH, BEYOND, "umbrella", 7);
        refused(State.CROWDED, FULL, "umbrella", 0);
        refused(State.CROWDED, FULL, "umbrella", 6);
        refused(State.CROWDED, BEYOND, "umbrella", 7);
        refused(State.CROWDED, BEYOND, "umbrella", -1);
        refused(State.RICH, BEYOND, "of", 3, 0);
        refused(State.RICH, BEYOND, "change", 3, 1, 1);
        refused(State.RICH, BEYOND, "change", 0, 8, 1);
        refused(State.RICH, BEYOND, "change", 0, 0, 7);
        refused(State.RICH, BEYOND, "change", 0, 1, 17);
        refused(State.RICH, BEYOND, "change", 0, 2, 4);
        refused(State.RICH, BEYOND, "change", 0, 3, 4);
        refused(State.RICH, BEYOND, "change", 0, 4, 9);
        refused(State.RICH, BEYOND, "change", 0, 5, 2);
        refused(State.RICH, BEYOND, "change", 0, 6, 1000);
        refused(State.RICH, BEYOND, "change", 0, 7, 100000);
        refused(State.RICH, BEYOND, "bears", 0, 0, 3);
        refused(State.RICH, BEYOND, "go", 0);
        refused(State.RICH, BEYOND, "go", 61);
        refused(State.RICH, BEYOND, "now", 7);
    }

    /** BEYOND before NONE: umbrella 2 can't come HOME, and there is no umbrella 3. */
    private static void whatWillBe() {
        refused(State.RICH, BEYOND, "ahead", 2, 0, 1);
        refused(State.RICH, BEYOND, "ahead", 2, 1, 101);
        refused(State.RICH, BEYOND, "homeWith", 2, 5);
        refused(State.RICH, BEYOND, "homeWith", 3, 7);
        refused(State.RICH, NONE, "homeWith", 2, 7);
        refused(State.RICH, NONE, "homeWith", 2, 6);
        refused(State.RICH, NONE, "homeWith", 2, 4);
        refused(State.NEW, NONE, "first");
        refused(State.CROWDED, NONE, "whup", 7);
        for (String name : new String[] {"home", "heldFor", "habitFor", "kindFor", "roofFor", "waitFor", "gustFor", "ribsFor"}) {
            refused(State.RICH, BEYOND, name, 3);
            // held towards FROM, or by habit 1, it comes back
            if (!name.equals("heldFor") && !name.equals("habitFor")) {
                refused(State.RICH, NONE, name, 2);
            }
        }
        refused(State.RICH, BEYOND, "whup", 3);
        refused(State.RICH, NONE, "whup", 2);
    }

    /** BEYOND for the sheet, then MISSING, then BEYOND for the umbrella. */
    private static void whereItWas() {
        for (String name : new String[] {"fits", "kinds"}) {
            refused(State.RICH, BEYOND, name, 4, 0);
            refused(State.RICH, BEYOND, name, -1, 3);
            refused(State.RICH, MISSING, name, 3, 0);
            refused(State.RICH, MISSING, name, 3, 3);
            refused(State.RICH, MISSING, name, 3, -1);
            refused(State.RICH, BEYOND, name, 0, 3);
            refused(State.RICH, BEYOND, name, 2, -1);
        }
    }

    private static void gustsAndTexts() {
        refused(State.RICH, BEYOND, "gusts", 0);
        refused(State.RICH, BEYOND, "gusts", 21);
        refused(State.RICH, BEYOND, "odds", 16, 0);
        refused(State.RICH, BEYOND, "odds", 0, 2);
        refused(State.RICH, BEYOND, "feed", 0x41414141, 0);
        refused(State.RICH, BEYOND, "feed", 0x41414141, 5);
        refused(State.CROWDED, FULL, "feed", 0x41414141, 1);
        refused(State.CROWDED, FULL, "feed", 0x41414141, 4);
        refused(State.CROWDED, BEYOND, "feed", 0x41414141, 0);
        refused(State.CROWDED, BEYOND, "feed", 0x41414141, 5);
    }

    /** BEYOND (spot or kind), then MISSING, then KIND. */
    private static void spots() {
        refused(State.RICH, BEYOND, "hold", 10, 0);
        refused(State.RICH, BEYOND, "hold", -1, -1);
        refused(State.RICH, BEYOND, "hold", 0, 3);
        refused(State.RICH, BEYOND, "hold", 0, -2);
        refused(State.RICH, BEYOND, "as", 10, 0);
        refused(State.RICH, BEYOND, "as", 1, 7);
        refused(State.RICH, BEYOND, "as", 1, -1);
        refused(State.RICH, MISSING, "as", 1, 0);
        refused(State.RICH, MISSING, "as", 1, 6);
        refused(State.RICH, KIND, "as", 0, 1);
        refused(State.RICH, KIND, "as", 0, 6);
    }

    /** Of sheet(): BEYOND (sheet, bits), SIZE, BEYOND (n); of the others BEYOND, MISSING, BEYOND. */
    private static void sheets() {
        refused(State.RICH, BEYOND, "sheet", 4, 8, -1);
        refused(State.RICH, BEYOND, "sheet", 0, 9, -1);
        refused(State.RICH, BEYOND, "sheet", -1, 0, -1);
        refused(State.RICH, SIZE, "sheet", 0, 8, -1);
        refused(State.RICH, SIZE, "sheet", 0, 0, -1);
        refused(State.RICH, SIZE, "sheet", 3, 0, -1);
        refused(State.RICH, BEYOND, "sheet", 0, 8, 41);
        refused(State.RICH, BEYOND, "sheet", 0, 0, 41);
        refused(State.RICH, BEYOND, "write", 4, 0, 5);
        refused(State.RICH, BEYOND, "write", -1, -1, 5);
        refused(State.RICH, MISSING, "write", 3, 0, 5);
        refused(State.RICH, MISSING, "write", 3, -1, 5);
        refused(State.RICH, BEYOND, "write", 0, 40, 5);
        refused(State.RICH, BEYOND, "write", 0, -1, 5);
        refused(State.RICH, BEYOND, "write", 1, 3, 5);
        refused(State.RICH, BEYOND, "write", 2, 0, 5);
        for (String name : new String[] {"load", "judge"}) {
            refused(State.RICH, BEYOND, name, 4);
            refused(State.RICH, BEYOND, name, -1);
            refused(State.RICH, MISSING, name, 3);
        }
    }

    /** BEYOND (either sheet), MISSING (one), KIND (bits), BEYOND (numbers). */
    private static void copies() {
        refused(State.RICH, BEYOND, "copy", 4, 0, 3, 0, 1);
        refused(State.RICH, BEYOND, "copy", 3, 0, 4, 0, 1);
        refused(State.RICH, BEYOND, "copy", -1, -1, 0, -1, -1);
        refused(State.RICH, MISSING, "copy", 3, 0, 0, 0, 1);
        refused(State.RICH, MISSING, "copy", 0, 0, 3, 0, 1);
        refused(State.RICH, MISSING, "copy", 3, -1, 3, -1, -1);
        refused(State.RICH, KIND, "copy", 0, 0, 1, 0, 1);
        refused(State.RICH, KIND, "copy", 1, 0, 0, 0, 0);
        refused(State.RICH, KIND, "copy", 1, -1, 2, -1, -1);
        refused(State.RICH, KIND, "copy", 2, 0, 1, 0, 99);
        refused(State.RICH, BEYOND, "copy", 0, 0, 2, 0, 1);
        refused(State.RICH, BEYOND, "copy", 2, 0, 0, 0, 1);
        refused(State.RICH, BEYOND, "copy", 0, 0, 0, 1, 40);
        refused(State.RICH, BEYOND, "copy", 0, 1, 0, 0, 40);
        refused(State.RICH, BEYOND, "copy", 0, -1, 0, 0, 1);
        refused(State.RICH, BEYOND, "copy", 0, 0, 0, -1, 1);
        refused(State.RICH, BEYOND, "copy", 0, 0, 0, 0, -1);
        refused(State.RICH, BEYOND, "copy", 0, 1, 0, 0, Integer.MAX_VALUE);
    }

    private static void images() {
        refused(State.NEW, NONE, "undo");
        refused(State.CROWDED, NONE, "undo");
        refused(State.RICH, BEYOND, "count", 8);
        refused(State.RICH, BEYOND, "count", -1);
        refused(State.RICH, BEYOND, "status", 7);
        refused(State.RICH, BEYOND, "status", -2);
    }

    /**
     * STATE: TICK would be above 99999. No 512 calls come that far, so what is seen here is free;
     * the words hold none the less.
     */
    private static void state() {
        InsideOut x = new InsideOut();
        for (int i = 0; i < 1665; i++) {
            x.go(60);
        }
        x.go(39);
        Due.due("TICK", x.now(0), 99939);
        x.image();
        Due.due("go(60) up to TICK 99999", x.go(60), 0);
        Due.due("TICK", x.now(0), 99999);
        x.undo();
        x.go(1);
        Due.due("go(60) from TICK 99940", x.go(60), -1000005);
        Due.due("go(61), BEYOND first", x.go(61), BEYOND);
        Due.due("TICK stays", x.now(0), 99940);
        x.go(39);
        x.image();
        Due.due("gusts(20) up to TICK 99999", x.gusts(20), 0);
        Due.due("TICK", x.now(0), 99999);
        Due.due("gusts(1) from TICK 99999", x.gusts(1), Due.STATE);
        Due.due("go(1) from TICK 99999", x.go(1), Due.STATE);
        x.undo();
        x.go(1);
        int z = x.count(6);
        Due.due("gusts(20) from TICK 99980", x.gusts(20), Due.STATE);
        Due.due("gusts(21), BEYOND first", x.gusts(21), BEYOND);
        Due.due("z stays", x.count(6), z);
        Due.due("TICK stays", x.now(0), 99980);
        Due.due("status(4)", x.status(4), 4);
    }

    /** Answers that look low but are none, and so are not counted. */
    private static void notRefused() {
        InsideOut x = new InsideOut();
        x.seed(-1000001);
        Due.due("seed answers what it was", x.seed(-1000007), -1000001);
        Due.due("count(6) answers z", x.count(6), -1000007);
        Due.due("a FAULT is no finding", Due.read(x, "rain 100"), -6);
        Due.due("tear() of nothing", x.tear(), 0);
        Due.due("wipe() of nothing", x.wipe(), 0);
        Due.due("status(-1)", x.status(-1), 0);
    }
}
