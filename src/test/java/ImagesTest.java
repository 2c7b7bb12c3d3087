/** Promises 38 to 42: images, counts, status. */
public final class ImagesTest {
    private static final long BEYOND = Due.BEYOND;
    private static final int MIN = Integer.MIN_VALUE;
    private static final int MAX = Integer.MAX_VALUE;

    public static void main(String[] args) {
        undo();
        tapeAndSheetsStay();
        latest();
        tear();
        count();
        status();
        findingsAreNotTakenBack();
        Due.end();
    }

    private static void due(String call, long got, long want) {
        Due.due(call, got, want);
    }

    private static void undo() {
        InsideOut x = Due.from("umbrella at 3 ribs 5 held 1 habit 2;right 4 44;roof 9;rain 33;gust 12");
        x.hold(2, 0);
        x.seed(99);
        x.go(2);
        long[] before = all(x);
        due("image()", x.image(), 1);
        x.umbrella(4);
        x.hold(2, 1);
        x.hold(3, 0);
        x.step(4, 0, 2);
        x.step(4, 1, 1);
        x.step(9, 2, 0);
        x.weather(0, 1);
        x.weather(1, 2);
        for (int what = 0; what <= 7; what++) {
            x.change(0, what, 1);
        }
        x.gusts(9);
        due("undo()", x.undo(), 2);
        dueAll("undone", all(x), before);
        due("the second is gone", x.of(1, 0), BEYOND);
        due("the spot holds the first", x.as(2, 0), 0);
        x.go(5);
        x.umbrella(3);
        due("undo() again", x.undo(), 2);
        dueAll("undone again", all(x), before);
        due("a new one is new", x.umbrella(5), 1);
        due("KIND", x.of(1, 0), 5);
        due("AT", x.of(1, 1), 0);
    }

    private static long[] all(InsideOut x) {
        long[] all = new long[8 + 7 + 16 * 5 + 11];
        int n = 0;
        for (int what = 0; what <= 7; what++) {
            all[n++] = x.count(what);
        }
        for (int what = 0; what <= 6; what++) {
            all[n++] = x.now(what);
        }
        for (int step = 0; step < 16; step++) {
            for (int what = 0; what <= 4; what++) {
                all[n++] = x.stepOf(step, what);
            }
        }
        for (int what = 0; what <= 10; what++) {
            all[n++] = x.of(0, what);
        }
        return all;
    }

    private static void dueAll(String when, long[] got, long[] want) {
        for (int i = 0; i < want.length; i++) {
            due(when + ", place " + i, got[i], want[i]);
        }
    }

    private static void tapeAndSheetsStay() {
        InsideOut x = new InsideOut();
        Due.feed(x, "rain ");
        x.sheet(0, 8, 2);
        x.image();
        Due.due("feed", x.feed('7', 1), 6);
        x.write(0, 0, 77);
        x.sheet(1, 32, 4);
        x.undo();
        due("TAPE", x.count(5), 6);
        due("text()", x.text(), 1);
        due("RAIN", x.weather(0, 8), 7);
        due("load(0)", x.load(0), 2);
        due("STRENGTH", x.stepOf(0, 1), 77);
        due("sheet 1", x.write(1, 3, 0), 1);
        due("undo()", x.undo(), 0);
        due("STRENGTH as kept", x.stepOf(0, 1), 10);
        due("TAPE is still empty", x.count(5), 0);
    }

    private static void latest() {
        InsideOut x = new InsideOut();
        x.image();
        x.go(3);
        x.image();
        x.go(4);
        due("undo() to the latest", x.undo(), 3);
        due("undo() to the latest", x.undo(), 3);
    }

    private static void tear() {
        InsideOut x = new InsideOut();
        due("tear()", x.tear(), 0);
        due("undo()", x.undo(), Due.NONE);
        x.go(5);
        x.image();
        due("tear()", x.tear(), 1);
        due("tear()", x.tear(), 0);
        due("undo()", x.undo(), Due.NONE);
        due("TICK", x.now(0), 5);
        x.image();
        x.go(1);
        due("undo()", x.undo(), 5);
        due("status(3)", x.status(3), 2);
    }

    private static void count() {
        InsideOut x = Due.from("umbrella at 16 ribs 3;big at 15 ribs 4;small");
        x.hold(0, 0);
        x.hold(9, 0);
        x.seed(-7);
        x.go(1);
        x.feed(0, 3);
        due("TICK", x.count(0), 1);
        due("UMBRELLAS", x.count(1), 3);
        due("HOME", x.count(2), 2);
        due("WET", x.count(3), 0 + 2 + 6);
        due("RIBS", x.count(4), 3 + 4 + 8);
        due("TAPE", x.count(5), 3);
        due("z", x.count(6), -7);
        due("SPOTS", x.count(7), 2);
        x.seed(-1000003);
        due("z like a finding", x.count(6), -1000003);
        due("status(-1)", x.status(-1), 0);
        int[] beyond = {-1, 8, MIN, MAX};
        for (int what : beyond) {
            due("count(" + what + ")", x.count(what), BEYOND);
        }
        due("status(0)", x.status(0), beyond.length);
    }

    private static void dueStatus(InsideOut x, int... want) {
        int all = 0;
        for (int which = 0; which <= 6; which++) {
            due("status(" + which + ")", x.status(which), want[which]);
            all += want[which];
        }
        due("status(-1)", x.status(-1), all);
    }

    private static void status() {
        InsideOut x = Due.from("umbrella;umbrella;umbrella;umbrella;umbrella;umbrella;umbrella;paper");
        dueStatus(x, 0, 0, 0, 0, 0, 0, 0);
        x.now(9);
        dueStatus(x, 1, 0, 0, 0, 0, 0, 0);
        x.umbrella(0);
        x.umbrella(0);
        dueStatus(x, 1, 2, 0, 0, 0, 0, 0);
        x.hold(0, 7);
        x.as(0, 1);
        dueStatus(x, 1, 2, 1, 0, 0, 0, 0);
        x.undo();
        x.undo();
        x.undo();
        dueStatus(x, 1, 2, 1, 3, 0, 0, 0);
        x.load(0);
        x.as(1, 0);
        dueStatus(x, 1, 2, 1, 3, 0, 2, 0);
        x.sheet(0, 0, -1);
        dueStatus(x, 1, 2, 1, 3, 0, 2, 1);
        x.odds(16, 0);
        dueStatus(x, 2, 2, 1, 3, 0, 2, 1);
        due("text with a fault is none", x.text(), -1);
        dueStatus(x, 2, 2, 1, 3, 0, 2, 1);
        int[] beyond = {-2, 7, MIN, MAX};
        for (int which : beyond) {
            due("status(" + which + ")", x.status(which), BEYOND);
        }
        dueStatus(x, 6, 2, 1, 3, 0, 2, 1);
    }

    private static void findingsAreNotTakenBack() {
        InsideOut x = new InsideOut();
        x.image();
        x.now(7);
        x.load(0);
        x.undo();
        dueStatus(x, 1, 0, 0, 0, 0, 1, 0);
    }
}
