import java.util.ArrayList;
import java.util.List;
import java.util.regex.Matcher;
import java.util.regex.Pattern;

/**
 * The document once more, told in another way and with the whole library: kinds are classes under
 * one another, worlds are copied whole, texts are cut by patterns. InsideOut must answer alike.
 */
final class Model {
    static final int BEYOND = -1000001;
    static final int FULL = -1000002;
    static final int KIND = -1000003;
    static final int NONE = -1000004;
    static final int STATE = -1000005;
    static final int MISSING = -1000006;
    static final int SIZE = -1000007;

    static class Plain {
        int stiff(int ribs, int wet) {
            return 5 * ribs;
        }

        int covers(int rain, int tick, int wet) {
            return rain / 2;
        }

        int pace(int tick) {
            return 1;
        }
    }

    static class Big extends Plain {
        @Override int stiff(int ribs, int wet) {
            return Math.max(0, super.stiff(ribs, wet) - 10);
        }

        @Override int covers(int rain, int tick, int wet) {
            return super.covers(rain, tick, wet) + rain / 4;
        }
    }

    static class Golf extends Big {
        @Override int stiff(int ribs, int wet) {
            return super.stiff(ribs, wet) / 2;
        }

        @Override int covers(int rain, int tick, int wet) {
            return super.covers(rain, tick, wet) + 2;
        }

        @Override int pace(int tick) {
            return 1 - tick % 2;
        }
    }

    static class Small extends Plain {
        @Override int stiff(int ribs, int wet) {
            return super.stiff(ribs, wet) + 15;
        }

        @Override int covers(int rain, int tick, int wet) {
            return rain / 3;
        }
    }

    static class Bent extends Small {
        @Override int stiff(int ribs, int wet) {
            return Math.max(0, super.stiff(ribs, wet) - wet / 100);
        }

        @Override int covers(int rain, int tick, int wet) {
            return Math.max(0, super.covers(rain, tick, wet) - 1);
        }
    }

    static class Binned extends Bent {
        @Override int stiff(int ribs, int wet) {
            return super.stiff(ribs, wet) / 2;
        }

        @Override int covers(int rain, int tick, int wet) {
            return tick % 2 == 0 ? super.covers(rain, tick, wet) : 0;
        }

        @Override int pace(int tick) {
            return 2 * super.pace(tick);
        }
    }

    static class Paper extends Plain {
        @Override int stiff(int ribs, int wet) {
            return 5;
        }

        @Override int covers(int rain, int tick, int wet) {
            return wet < 50 ? 4 : 0;
        }

        @Override int pace(int tick) {
            return 2;
        }
    }

    private static final Plain[] KINDS = {
        new Plain(), new Big(), new Small(), new Bent(), new Binned(), new Paper(), new Golf(),
    };
    private static final int[] GREATEST = {6, 16, 3, 3, 8, 1, 999, 99999};
    private static final List<String> KIND_WORDS =
        List.of("umbrella", "big", "small", "bent", "binned", "paper", "golf");
    private static final List<String> FROM_WORDS = List.of("left", "right", "below");

    /** All that an image keeps. */
    static final class World {
        int[][] steps = new int[16][];
        int[] weather = {8, 20};
        int tick;
        int z = 1;
        int outs;
        List<int[]> umbrellas = new ArrayList<>();
        int[] spots = {-1, -1, -1, -1, -1, -1, -1, -1, -1, -1};

        World() {
            for (int i = 0; i < 16; i++) {
                steps[i] = new int[] {0, 10, 0};
            }
        }

        World copied() {
            World w = new World();
            for (int i = 0; i < 16; i++) {
                w.steps[i] = steps[i].clone();
            }
            w.weather = weather.clone();
            w.tick = tick;
            w.z = z;
            w.outs = outs;
            for (int[] u : umbrellas) {
                w.umbrellas.add(u.clone());
            }
            w.spots = spots.clone();
            return w;
        }

        int wind(int step) {
            int wind = steps[step][1];
            if (tick % 3 == 2) {
                wind += weather[1];
            }
            return steps[step][2] == 1 ? wind / 2 : wind;
        }

        int stiff(int[] u) {
            return KINDS[u[0]].stiff(u[4], u[7]);
        }

        int bears(int[] u, int step, int held) {
            int from = steps[step][0];
            if (held == from) {
                return 2 * stiff(u);
            }
            return held + from == 1 ? stiff(u) / 2 : stiff(u);
        }

        int covers(int[] u) {
            return Math.min(weather[0], KINDS[u[0]].covers(weather[0], tick, u[7]));
        }

        void pass() {
            for (int[] u : umbrellas) {
                if (u[1] < 16) {
                    pass(u);
                }
            }
            tick = Math.min(99999, tick + 1);
        }

        private void pass(int[] u) {
            int step = u[1];
            int from = steps[step][0];
            if (u[3] == 1) {
                u[2] = from;
            } else if (u[3] == 2) {
                u[2] = step == 15 ? from : steps[step + 1][0];
            } else if (u[3] == 3) {
                u[2] = from;
                if (wind(step) > bears(u, step, from)) {
                    u[2] = 3;
                }
            }
            if (u[5] == 1) {
                u[5] = u[2] == from ? 0 : 1;
            } else if (u[2] != 3 && wind(step) > bears(u, step, u[2])) {
                u[5] = 1;
                outs++;
                if (u[6] < 999) {
                    u[6]++;
                }
                if (u[4] > 0) {
                    u[4]--;
                }
            }
            if (steps[step][2] == 0) {
                int more = weather[0];
                if (u[2] != 3 && u[5] == 0) {
                    more -= covers(u);
                }
                u[7] = Math.min(99999, u[7] + more);
            }
            if (u[5] == 0) {
                u[1] = Math.min(16, step + KINDS[u[0]].pace(tick));
            }
        }

        int draw() {
            z = z * 1103515245 + 12345;
            return z >>> 8;
        }
    }

    World w = new World();
    World image;
    byte[] tape = new byte[0];
    final int[] bits = new int[4];
    final int[][] sheets = new int[4][];
    final int[] status = new int[7];

    private int f(int finding) {
        status[BEYOND - finding]++;
        return finding;
    }

    private boolean no(int u) {
        return u < 0 || u >= w.umbrellas.size();
    }

    private static boolean out(int v, int from, int to) {
        return v < from || v > to;
    }

    int step(int step, int what, int v) {
        if (out(step, 0, 15) || out(what, 0, 2) || out(v, 0, new int[] {2, 99, 1}[what])) {
            return f(BEYOND);
        }
        int was = w.steps[step][what];
        w.steps[step][what] = v;
        return was;
    }

    int stepOf(int step, int what) {
        if (out(step, 0, 15) || out(what, 0, 4)) {
            return f(BEYOND);
        }
        if (what < 3) {
            return w.steps[step][what];
        }
        return what == 3 ? w.wind(step) : set(1, step);
    }

    private int set(int what, int v) {
        int set = 0;
        for (int u = 0; u < w.umbrellas.size(); u++) {
            if (w.umbrellas.get(u)[what] == v) {
                set += 1 << u;
            }
        }
        return set;
    }

    private int sum(int what) {
        return w.umbrellas.stream().mapToInt(u -> u[what]).sum();
    }

    int weather(int what, int v) {
        if (out(what, 0, 1) || out(v, 0, 99)) {
            return f(BEYOND);
        }
        int was = w.weather[what];
        w.weather[what] = v;
        return was;
    }

    int umbrella(int kind) {
        if (out(kind, 0, 6)) {
            return f(BEYOND);
        }
        if (w.umbrellas.size() == 8) {
            return f(FULL);
        }
        w.umbrellas.add(new int[] {kind, 0, 0, 0, 8, 0, 0, 0});
        return w.umbrellas.size() - 1;
    }

    int of(int umbrella, int what) {
        if (no(umbrella) || out(what, 0, 10)) {
            return f(BEYOND);
        }
        int[] u = w.umbrellas.get(umbrella);
        if (what < 8) {
            return u[what];
        }
        if (what == 8) {
            return w.stiff(u);
        }
        return what == 9 ? w.covers(u) : KINDS[u[0]].pace(w.tick);
    }

    int change(int umbrella, int what, int v) {
        if (no(umbrella) || out(what, 0, 7) || out(v, 0, GREATEST[what])) {
            return f(BEYOND);
        }
        int[] u = w.umbrellas.get(umbrella);
        int was = u[what];
        u[what] = v;
        return was;
    }

    int bears(int umbrella, int step, int held) {
        if (no(umbrella) || out(step, 0, 15) || out(held, 0, 2)) {
            return f(BEYOND);
        }
        return w.bears(w.umbrellas.get(umbrella), step, held);
    }

    int go(int n) {
        if (out(n, 1, 60)) {
            return f(BEYOND);
        }
        if (w.tick > 99999 - n) {
            return f(STATE);
        }
        for (int i = 0; i < n; i++) {
            w.pass();
        }
        return set(1, 16);
    }

    int now(int what) {
        int roofs = 0;
        for (int i = 15; i >= 0; i--) {
            roofs = 2 * roofs + w.steps[i][2];
        }
        if (out(what, 0, 6)) {
            return f(BEYOND);
        }
        return new int[] {w.tick, sum(7), set(1, 16), set(5, 1), sum(4), roofs, sum(6)}[what];
    }

    /** How one umbrella fares on a world: a row of its marks behind 0, 1, .. n ticks. */
    private static List<int[]> fares(World from, int umbrella, int n) {
        World world = from.copied();
        List<int[]> rows = new ArrayList<>();
        for (int i = 0; i <= n; i++) {
            rows.add(world.umbrellas.get(umbrella).clone());
            world.pass();
        }
        return rows;
    }

    private static int homeIn(List<int[]> rows) {
        for (int i = 0; i < rows.size(); i++) {
            if (rows.get(i)[1] == 16) {
                return i;
            }
        }
        return -1;
    }

    int ahead(int umbrella, int what, int n) {
        if (no(umbrella) || out(what, 1, 7) || out(n, 0, 100)) {
            return f(BEYOND);
        }
        return fares(w, umbrella, n).get(n)[what];
    }

    int home(int umbrella) {
        if (no(umbrella)) {
            return f(BEYOND);
        }
        int ticks = homeIn(fares(w, umbrella, 200));
        return ticks < 0 ? f(NONE) : ticks;
    }

    int homeWith(int umbrella, int what) {
        if (no(umbrella) || !List.of(4, 6, 7).contains(what)) {
            return f(BEYOND);
        }
        List<int[]> rows = fares(w, umbrella, 200);
        int ticks = homeIn(rows);
        return ticks < 0 ? f(NONE) : rows.get(ticks)[what];
    }

    int whup(int umbrella) {
        if (no(umbrella)) {
            return f(BEYOND);
        }
        List<int[]> rows = fares(w, umbrella, 200);
        for (int i = 1; i <= 200; i++) {
            if (rows.get(i)[6] > rows.get(0)[6]) {
                return i;
            }
        }
        return f(NONE);
    }

    int first() {
        for (int ticks = 0; ticks <= 200; ticks++) {
            World world = w.copied();
            for (int i = 0; i < ticks; i++) {
                world.pass();
            }
            for (int u = 0; u < world.umbrellas.size(); u++) {
                if (world.umbrellas.get(u)[1] == 16) {
                    return u;
                }
            }
        }
        return f(NONE);
    }

    /** Of worlds (null: not to be had), the place of that in which the umbrella is home least wet. */
    private int least(int umbrella, List<World> worlds) {
        int best = -1;
        int wet = Integer.MAX_VALUE;
        for (int i = 0; i < worlds.size(); i++) {
            if (worlds.get(i) == null) {
                continue;
            }
            List<int[]> rows = fares(worlds.get(i), umbrella, 200);
            int ticks = homeIn(rows);
            if (ticks >= 0 && rows.get(ticks)[7] < wet) {
                wet = rows.get(ticks)[7];
                best = i;
            }
        }
        return best < 0 ? f(NONE) : best;
    }

    private List<World> withMark(int umbrella, int what) {
        List<World> worlds = new ArrayList<>();
        for (int v = 0; v <= GREATEST[what]; v++) {
            World world = w.copied();
            world.umbrellas.get(umbrella)[what] = v;
            worlds.add(world);
        }
        return worlds;
    }

    int habitFor(int umbrella) {
        return no(umbrella) ? f(BEYOND) : least(umbrella, withMark(umbrella, 3));
    }

    int heldFor(int umbrella) {
        return no(umbrella) ? f(BEYOND) : least(umbrella, withMark(umbrella, 2));
    }

    int kindFor(int umbrella) {
        return no(umbrella) ? f(BEYOND) : least(umbrella, withMark(umbrella, 0));
    }

    int roofFor(int umbrella) {
        if (no(umbrella)) {
            return f(BEYOND);
        }
        List<World> worlds = new ArrayList<>();
        for (int step = 0; step < 16; step++) {
            World world = w.copied();
            world.steps[step][2] = 1;
            worlds.add(w.steps[step][2] == 1 ? null : world);
        }
        return least(umbrella, worlds);
    }

    int waitFor(int umbrella) {
        if (no(umbrella)) {
            return f(BEYOND);
        }
        List<World> worlds = new ArrayList<>();
        for (int ticks = 0; ticks <= 11; ticks++) {
            World world = w.copied();
            world.tick = Math.min(99999, world.tick + ticks);
            worlds.add(world);
        }
        return least(umbrella, worlds);
    }

    private static boolean unturned(World world, int umbrella, int turned) {
        List<int[]> rows = fares(world, umbrella, 200);
        int ticks = homeIn(rows);
        return ticks >= 0 && rows.get(ticks)[6] == turned;
    }

    int gustFor(int umbrella) {
        if (no(umbrella)) {
            return f(BEYOND);
        }
        int best = -1;
        for (int gust = 0; gust <= 99; gust++) {
            World world = w.copied();
            world.weather[1] = gust;
            if (unturned(world, umbrella, w.umbrellas.get(umbrella)[6])) {
                best = gust;
            }
        }
        return best < 0 ? f(NONE) : best;
    }

    int ribsFor(int umbrella) {
        if (no(umbrella)) {
            return f(BEYOND);
        }
        List<World> worlds = withMark(umbrella, 4);
        for (int ribs = 0; ribs <= 8; ribs++) {
            if (unturned(worlds.get(ribs), umbrella, w.umbrellas.get(umbrella)[6])) {
                return ribs;
            }
        }
        return f(NONE);
    }

    private int following(int s, int umbrella, int what) {
        if (out(s, 0, 3)) {
            return f(BEYOND);
        }
        if (sheets[s] == null) {
            return f(MISSING);
        }
        if (no(umbrella)) {
            return f(BEYOND);
        }
        int set = 0;
        List<World> worlds = withMark(umbrella, what);
        for (int v = 0; v < worlds.size(); v++) {
            List<int[]> rows = fares(worlds.get(v), umbrella, 40);
            boolean all = true;
            for (int i = 0; i < sheets[s].length; i++) {
                all &= sheets[s][i] == -1 || sheets[s][i] == rows.get(i)[1];
            }
            set += all ? 1 << v : 0;
        }
        return set;
    }

    int fits(int s, int umbrella) {
        return following(s, umbrella, 3);
    }

    int kinds(int s, int umbrella) {
        return following(s, umbrella, 0);
    }

    int gusts(int n) {
        if (out(n, 1, 20)) {
            return f(BEYOND);
        }
        if (w.tick > 99999 - n) {
            return f(STATE);
        }
        int before = w.outs;
        for (int i = 0; i < n; i++) {
            int step = w.draw() % 16;
            w.steps[step][1] = w.draw() % 60;
            w.pass();
        }
        return w.outs - before;
    }

    long odds(int n, int what) {
        if (out(n, 0, 15) || out(what, 0, 1)) {
            return f(BEYOND);
        }
        java.math.BigInteger above = java.math.BigInteger.valueOf(Integer.bitCount(now(5))).pow(n);
        java.math.BigInteger below = java.math.BigInteger.valueOf(16).pow(n);
        return (what == 0 ? above : below).divide(above.gcd(below)).longValueExact();
    }

    int seed(int v) {
        int was = w.z;
        w.z = v;
        return was;
    }

    int feed(int bytes, int n) {
        if (out(n, 1, 4)) {
            return f(BEYOND);
        }
        if (tape.length + n > 120) {
            return f(FULL);
        }
        byte[] longer = java.util.Arrays.copyOf(tape, tape.length + n);
        for (int i = 0; i < n; i++) {
            longer[longer.length - 1 - i] = (byte) (bytes >> 8 * i);
        }
        tape = longer;
        return tape.length;
    }

    int wipe() {
        int had = tape.length;
        tape = new byte[0];
        return had;
    }

    private static final class Fault extends Exception {
        private static final long serialVersionUID = 1L;
        final int place;

        Fault(int place) {
            super("fault");
            this.place = place;
        }
    }

    private final List<String> tokens = new ArrayList<>();
    private final List<Integer> places = new ArrayList<>();
    private int next;

    private void cut(String text) {
        tokens.clear();
        places.clear();
        next = 0;
        Matcher m = Pattern.compile("[a-z]+|[0-9]+|[^ ]").matcher(text);
        while (m.find()) {
            tokens.add(m.group());
            places.add(m.start());
        }
        tokens.add("");
        places.add(text.length());
    }

    private int number(int greatest) throws Fault {
        String token = tokens.get(next);
        if (!token.matches("[0-9]+")
                || new java.math.BigInteger(token).compareTo(java.math.BigInteger.valueOf(greatest)) > 0) {
            throw new Fault(places.get(next));
        }
        next++;
        return Integer.parseInt(token);
    }

    private void item(World world) throws Fault {
        String word = tokens.get(next);
        int kind = KIND_WORDS.indexOf(word);
        int from = FROM_WORDS.indexOf(word);
        boolean known = kind >= 0 || from >= 0 || List.of("roof", "open", "rain", "gust").contains(word);
        if (!known || kind >= 0 && world.umbrellas.size() >= 8) {
            throw new Fault(places.get(next));
        }
        next++;
        if (kind >= 0) {
            int[] u = {kind, 0, 0, 0, 8, 0, 0, 0};
            String[] words = {"at", "ribs", "held", "habit"};
            int[] whats = {1, 4, 2, 3};
            for (int i = 0; i < 4; i++) {
                if (tokens.get(next).equals(words[i])) {
                    next++;
                    u[whats[i]] = number(GREATEST[whats[i]]);
                }
            }
            world.umbrellas.add(u);
        } else if (from >= 0) {
            int step = number(15);
            world.steps[step][0] = from;
            world.steps[step][1] = number(99);
        } else if (word.equals("roof")) {
            world.steps[number(15)][2] = 1;
        } else if (word.equals("open")) {
            world.steps[number(15)][2] = 0;
        } else {
            world.weather[word.equals("rain") ? 0 : 1] = number(99);
        }
    }

    int text() {
        cut(new String(tape, java.nio.charset.StandardCharsets.ISO_8859_1));
        tape = new byte[0];
        World world = w.copied();
        int items = 0;
        try {
            while (true) {
                item(world);
                items++;
                if (tokens.get(next).isEmpty()) {
                    w = world;
                    return items;
                }
                if (!tokens.get(next).equals(";")) {
                    throw new Fault(places.get(next));
                }
                next++;
            }
        } catch (Fault fault) {
            return -1 - fault.place;
        }
    }

    int hold(int spot, int umbrella) {
        if (out(spot, 0, 9) || umbrella != -1 && no(umbrella)) {
            return f(BEYOND);
        }
        w.spots[spot] = umbrella;
        return 1;
    }

    int as(int spot, int kind) {
        if (out(spot, 0, 9) || out(kind, 0, 6)) {
            return f(BEYOND);
        }
        if (w.spots[spot] == -1) {
            return f(MISSING);
        }
        Plain is = KINDS[w.umbrellas.get(w.spots[spot])[0]];
        return KINDS[kind].getClass().isInstance(is) ? w.spots[spot] : f(KIND);
    }

    int sheet(int s, int newBits, int n) {
        if (out(s, 0, 3) || !List.of(0, 8, 16, 32).contains(newBits)) {
            return f(BEYOND);
        }
        if (n < 0) {
            return f(SIZE);
        }
        if (n > 40) {
            return f(BEYOND);
        }
        bits[s] = newBits;
        sheets[s] = newBits == 0 ? null : new int[n];
        return newBits == 0 ? 0 : n;
    }

    int write(int s, int i, int v) {
        if (out(s, 0, 3)) {
            return f(BEYOND);
        }
        if (sheets[s] == null) {
            return f(MISSING);
        }
        if (out(i, 0, sheets[s].length - 1)) {
            return f(BEYOND);
        }
        sheets[s][i] = v << 32 - bits[s] >> 32 - bits[s];
        return 1;
    }

    int copy(int s, int from, int t, int to, int n) {
        if (out(s, 0, 3) || out(t, 0, 3)) {
            return f(BEYOND);
        }
        if (sheets[s] == null || sheets[t] == null) {
            return f(MISSING);
        }
        if (bits[s] != bits[t]) {
            return f(KIND);
        }
        if (from < 0 || to < 0 || n < 0 || (long) from + n > sheets[s].length || (long) to + n > sheets[t].length) {
            return f(BEYOND);
        }
        int[] as = sheets[s].clone();
        for (int i = 0; i < n; i++) {
            sheets[t][to + i] = as[from + i];
        }
        return n;
    }

    int load(int s) {
        if (out(s, 0, 3)) {
            return f(BEYOND);
        }
        if (sheets[s] == null) {
            return f(MISSING);
        }
        int came = 0;
        for (int v : sheets[s]) {
            if (came == 16 || out(v, 0, 99)) {
                break;
            }
            w.steps[came++][1] = v;
        }
        return came;
    }

    int judge(int s) {
        if (out(s, 0, 3)) {
            return f(BEYOND);
        }
        if (sheets[s] == null) {
            return f(MISSING);
        }
        int place = 0;
        while (place < sheets[s].length && place < 16 && sheets[s][place] == w.wind(place)) {
            place++;
        }
        return place == sheets[s].length ? 0 : place + 1;
    }

    int image() {
        image = w.copied();
        return 1;
    }

    int undo() {
        if (image == null) {
            return f(NONE);
        }
        w = image.copied();
        return w.tick;
    }

    int tear() {
        int was = image == null ? 0 : 1;
        image = null;
        return was;
    }

    int count(int what) {
        if (out(what, 0, 7)) {
            return f(BEYOND);
        }
        int held = 0;
        for (int spot : w.spots) {
            held += spot == -1 ? 0 : 1;
        }
        return new int[] {w.tick, w.umbrellas.size(), Integer.bitCount(set(1, 16)), sum(7), sum(4),
            tape.length, w.z, held}[what];
    }

    int status(int which) {
        if (out(which, -1, 6)) {
            return f(BEYOND);
        }
        return which < 0 ? java.util.Arrays.stream(status).sum() : status[which];
    }
}
