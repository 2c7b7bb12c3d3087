import java.lang.reflect.InvocationTargetException;
import java.lang.reflect.Method;
import java.util.ArrayList;
import java.util.List;
import java.util.Random;

/** Long runs of drawn calls, the same in each run of the test: InsideOut answers as the Model does. */
public final class ModelTest {
    private static final int RUNS = 1500;
    private static final int CALLS = 512;
    private static final String[] NAMES = {
        "step", "stepOf", "weather", "umbrella", "of", "change", "bears", "go", "now", "ahead", "home", "homeWith",
        "whup", "first", "habitFor", "heldFor", "kindFor", "roofFor", "waitFor", "gustFor", "ribsFor", "fits", "kinds",
        "gusts", "odds", "seed", "feed", "wipe", "text", "hold", "as", "sheet", "write", "copy", "load", "judge",
        "image", "undo", "tear", "count", "status",
    };
    private static final String[] WORDS = {
        "umbrella", "big", "small", "bent", "binned", "paper", "golf", "at", "ribs", "held", "habit", "left", "right",
        "below", "roof", "open", "rain", "gust", ";", ";", ";", " ", "0", "1", "2", "3", "7", "8", "9", "15", "16",
        "17", "99", "100", "007", "1000", "x", "A", "-", "big;", "paper;", " at 3", " ribs 2", " held 1", " habit 3",
        "rain 5;", "roof 4;", "left 2 60;", "below 7 41;",
    };

    private final Random random;
    private final InsideOut x = new InsideOut();
    private final Model model = new Model();
    private final StringBuilder told = new StringBuilder();
    private static final Method[] OURS = methods(InsideOut.class);
    private static final Method[] THEIRS = methods(Model.class);

    private ModelTest(int seed) {
        random = new Random(seed);
    }

    public static void main(String[] args) throws ReflectiveOperationException {
        for (int seed = 0; seed < RUNS; seed++) {
            if (!new ModelTest(seed).run()) {
                System.out.println("that was run " + seed);
                System.exit(1);
            }
        }
        System.out.println(RUNS + " runs of " + CALLS + " calls as the model");
    }

    private static Method[] methods(Class<?> of) {
        List<Method> found = new ArrayList<>();
        for (String name : NAMES) {
            for (Method m : of.getDeclaredMethods()) {
                if (m.getName().equals(name)) {
                    found.add(m);
                }
            }
        }
        if (found.size() != NAMES.length) {
            throw new IllegalStateException("a method is missing, or told twice, in " + of);
        }
        return found.toArray(new Method[0]);
    }

    private boolean run() throws ReflectiveOperationException {
        int calls = 0;
        if (random.nextInt(4) > 0) {
            int umbrellas = random.nextInt(8);
            for (int i = 0; i < umbrellas; i++) {
                calls++;
                call(3, random.nextInt(7));
            }
        }
        boolean stormy = random.nextBoolean();
        while (calls < CALLS) {
            if (stormy && random.nextInt(8) == 0) {
                if (!call(0, random.nextInt(16), random.nextInt(2), random.nextInt(3) * 17)) {
                    return false;
                }
                calls++;
                continue;
            }
            if (random.nextInt(25) == 0) {
                calls += feedText();
                continue;
            }
            int which = random.nextInt(NAMES.length);
            calls++;
            if (!call(which, drawn(which))) {
                return false;
            }
        }
        return true;
    }

    private int feedText() throws ReflectiveOperationException {
        StringBuilder text = new StringBuilder();
        int n = random.nextInt(12);
        for (int i = 0; i < n; i++) {
            text.append(random.nextInt(3) == 0 ? " " : "").append(WORDS[random.nextInt(WORDS.length)]);
            text.append(random.nextInt(3) > 0 ? " " : "");
        }
        int calls = 1;
        for (int at = 0; at < text.length(); at++) {
            calls++;
            call(26, text.charAt(at), 1);
        }
        call(28);
        return calls;
    }

    private boolean call(int which, int... args) throws ReflectiveOperationException {
        Object[] boxed = new Object[args.length];
        StringBuilder shown = new StringBuilder(NAMES[which]).append('(');
        for (int i = 0; i < args.length; i++) {
            boxed[i] = args[i];
            shown.append(i == 0 ? "" : ", ").append(args[i]);
        }
        long got;
        try {
            got = ((Number) OURS[which].invoke(x, boxed)).longValue();
        } catch (InvocationTargetException thrown) {
            System.out.println(told);
            System.out.println(shown + ") threw " + thrown.getCause());
            System.exit(1);
            return false;
        }
        long want = ((Number) THEIRS[which].invoke(model, boxed)).longValue();
        told.append(shown).append(") = ").append(got).append('\n');
        if (got == want) {
            return true;
        }
        System.out.println(told.substring(Math.max(0, told.length() - 4000)));
        System.out.println(shown + ") answered " + got + ", due is " + want);
        System.exit(1);
        return false;
    }

    /** A number that is mostly from 0 to a greatest, sometimes a little or far beyond. */
    private int upTo(int greatest) {
        switch (random.nextInt(60)) {
            case 0:
                return -1;
            case 1:
                return greatest + 1;
            case 2:
                return random.nextInt();
            case 3:
                return random.nextBoolean() ? Integer.MIN_VALUE : Integer.MAX_VALUE;
            case 4:
                return greatest;
            default:
                return random.nextInt(greatest + 1);
        }
    }

    private int someUmbrella() {
        int n = x.count(1);
        model.count(1);
        return n == 0 ? upTo(1) : upTo(n - 1);
    }

    private int[] drawn(int which) {
        int what;
        switch (NAMES[which]) {
            case "step":
                what = upTo(2);
                return new int[] {upTo(15), what, upTo(what == 0 ? 2 : what == 1 ? 99 : 1)};
            case "stepOf":
                return new int[] {upTo(15), upTo(4)};
            case "weather":
                what = upTo(1);
                return new int[] {what, random.nextBoolean() ? upTo(30) : upTo(99)};
            case "umbrella":
                return new int[] {upTo(6)};
            case "of":
                return new int[] {someUmbrella(), upTo(10)};
            case "change":
                return drawnChange();
            case "bears":
                return new int[] {someUmbrella(), upTo(15), upTo(2)};
            case "go":
                return new int[] {random.nextInt(4) > 0 ? upTo(3) : upTo(60)};
            case "now":
                return new int[] {upTo(6)};
            case "ahead":
                return new int[] {someUmbrella(), upTo(7), random.nextBoolean() ? upTo(12) : upTo(100)};
            case "homeWith":
                return new int[] {someUmbrella(), upTo(7)};
            case "fits":
            case "kinds":
                return new int[] {upTo(3), someUmbrella()};
            case "gusts":
                return new int[] {random.nextInt(4) > 0 ? upTo(3) : upTo(20)};
            case "odds":
                return new int[] {upTo(15), upTo(1)};
            case "seed":
                return new int[] {random.nextInt()};
            case "feed":
                return new int[] {random.nextInt(), upTo(4)};
            default:
                return drawnForSheets(which);
        }
    }

    private int[] drawnChange() {
        int[] greatest = {6, 16, 3, 3, 8, 1, 999, 99999};
        int what = upTo(7);
        int top = what >= 0 && what <= 7 ? greatest[what] : 5;
        int v = what == 7 && random.nextBoolean() ? upTo(100) : upTo(top);
        if (what == 1 && random.nextInt(3) > 0) {
            v = random.nextInt(6);
        }
        return new int[] {someUmbrella(), what, v};
    }

    private int[] drawnForSheets(int which) {
        switch (NAMES[which]) {
            case "hold":
                return new int[] {upTo(9), someUmbrella()};
            case "as":
                return new int[] {upTo(9), upTo(6)};
            case "sheet":
                return new int[] {upTo(3), new int[] {0, 8, 16, 32, 8, 8, 8, 9, -8}[random.nextInt(9)],
                    random.nextBoolean() ? upTo(4) : upTo(40)};
            case "write":
                return new int[] {upTo(3), random.nextBoolean() ? upTo(3) : upTo(39),
                    random.nextBoolean() ? upTo(16) : random.nextBoolean() ? -1 : upTo(70000)};
            case "copy":
                return new int[] {upTo(3), upTo(3), upTo(3), upTo(3), upTo(6)};
            case "load":
            case "judge":
                return new int[] {upTo(3)};
            case "count":
                return new int[] {upTo(7)};
            case "status":
                return new int[] {random.nextInt(3) == 0 ? -1 : upTo(6)};
            default:
                return OURS[which].getParameterCount() == 0 ? new int[0] : new int[] {someUmbrella()};
        }
    }
}
