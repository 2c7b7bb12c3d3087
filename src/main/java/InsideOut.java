import java.util.Arrays;

/**
 * A street of steps with wind, roofs and rain, and umbrellas that are carried home along it.
 * What each public method promises is told, by number, in the project's document.
 */
public final class InsideOut {
    private static final int LOW = -1000001;
    private static final int BEYOND = 0;
    private static final int FULL = 1;
    private static final int OTHER_KIND = 2;
    private static final int NONE = 3;
    private static final int STATE = 4;
    private static final int MISSING = 5;
    private static final int SIZE = 6;
    private static final int FINDINGS = 7;

    private static final int STEPS = 16;
    private static final int HOME = 16;
    private static final int MOST_UMBRELLAS = 8;
    private static final int SPOTS = 10;
    private static final int NOTHING = -1;
    private static final int SHEETS = 4;
    private static final int MOST_NUMBERS = 40;
    private static final int MOST_BYTES = 120;
    private static final int LAST_TICK = 99999;
    private static final int FAR = 200;
    private static final int GREATEST_STRENGTH = 99;
    private static final int GREATEST_WEATHER = 99;
    private static final int WAITS = 12;

    private static final int LEFT = 0;
    private static final int RIGHT = 1;
    private static final int SHUT = 3;

    private static final int PLAIN = 0;
    private static final int BIG = 1;
    private static final int SMALL = 2;
    private static final int BENT = 3;
    private static final int BINNED = 4;
    private static final int PAPER = 5;
    private static final int GOLF = 6;
    private static final int KINDS = 7;
    private static final int[] KIND_ABOVE = {-1, PLAIN, PLAIN, SMALL, BENT, PLAIN, BIG};

    private static final int KIND = 0;
    private static final int AT = 1;
    private static final int HELD = 2;
    private static final int HABIT = 3;
    private static final int RIBS = 4;
    private static final int OUT = 5;
    private static final int TURNED = 6;
    private static final int WET = 7;
    private static final int STIFF = 8;
    private static final int COVERS = 9;
    private static final int PACE = 10;
    private static final int[] GREATEST = {6, HOME, SHUT, 3, 8, 1, 999, 99999};
    private static final int HABITS = 4;
    private static final int HOLDS = 4;

    /** Two more choices of a walk, beside the marks of an UMBRELLA. */
    private static final int ROOF_CHOICE = 20;
    private static final int WAIT_CHOICE = 21;

    private final World world = new World();
    private final World kept = new World();
    private final World draft = new World();
    private boolean somethingKept = false;
    private final Walk walk = new Walk();
    private final Tape tape = new Tape();
    private final Reader reader = new Reader(tape);
    private final Sheet[] sheets = new Sheet[SHEETS];
    private final int[] findings = new int[FINDINGS];

    public InsideOut() {
        for (int s = 0; s < SHEETS; s++) {
            sheets[s] = new Sheet();
        }
    }

    // ---- street, weather, umbrellas

    public int step(int step, int what, int v) {
        if (!isStep(step)) {
            return finding(BEYOND);
        }
        Street street = world.street;
        int[] row;
        int greatest;
        switch (what) {
            case 0:
                row = street.from;
                greatest = 2;
                break;
            case 1:
                row = street.strength;
                greatest = GREATEST_STRENGTH;
                break;
            case 2:
                row = street.roof;
                greatest = 1;
                break;
            default:
                return finding(BEYOND);
        }
        if (!isWithin(v, greatest)) {
            return finding(BEYOND);
        }
        int was = row[step];
        row[step] = v;
        return was;
    }

    public int stepOf(int step, int what) {
        if (!isStep(step)) {
            return finding(BEYOND);
        }
        Street street = world.street;
        switch (what) {
            case 0:
                return street.from[step];
            case 1:
                return street.strength[step];
            case 2:
                return street.roof[step];
            case 3:
                return street.windOn(step);
            case 4:
                return world.setOf(AT, step);
            default:
                return finding(BEYOND);
        }
    }

    public int weather(int what, int v) {
        if (!isWithin(what, 1) || !isWithin(v, GREATEST_WEATHER)) {
            return finding(BEYOND);
        }
        Street street = world.street;
        if (what == 0) {
            int was = street.rain;
            street.rain = v;
            return was;
        }
        int was = street.gust;
        street.gust = v;
        return was;
    }

    public int umbrella(int kind) {
        if (!isKind(kind)) {
            return finding(BEYOND);
        }
        if (world.isFull()) {
            return finding(FULL);
        }
        return world.addUmbrella(kind);
    }

    public int of(int umbrella, int what) {
        if (!isUmbrella(umbrella) || !isWithin(what, PACE)) {
            return finding(BEYOND);
        }
        Umbrella one = world.umbrellas[umbrella];
        switch (what) {
            case STIFF:
                return one.stiff();
            case COVERS:
                return one.covers(world.street);
            case PACE:
                return one.pace(world.street.tick);
            default:
                return one.mark(what);
        }
    }

    public int change(int umbrella, int what, int v) {
        if (!isUmbrella(umbrella) || !isWithin(what, WET) || !isWithin(v, GREATEST[what])) {
            return finding(BEYOND);
        }
        Umbrella one = world.umbrellas[umbrella];
        int was = one.mark(what);
        one.setMark(what, v);
        return was;
    }

    public int bears(int umbrella, int step, int held) {
        if (!isUmbrella(umbrella) || !isStep(step) || !isWithin(held, 2)) {
            return finding(BEYOND);
        }
        int stiff = world.umbrellas[umbrella].stiff();
        return Umbrella.bearable(stiff, world.street.from[step], held);
    }

    // ---- ticks

    public int go(int n) {
        if (n < 1 || n > 60) {
            return finding(BEYOND);
        }
        if (world.street.tick + n > LAST_TICK) {
            return finding(STATE);
        }
        for (int i = 0; i < n; i++) {
            world.passTick();
        }
        return world.setOf(AT, HOME);
    }

    public int now(int what) {
        switch (what) {
            case 0:
                return world.street.tick;
            case 1:
                return world.sumOf(WET);
            case 2:
                return world.setOf(AT, HOME);
            case 3:
                return world.setOf(OUT, 1);
            case 4:
                return world.sumOf(RIBS);
            case 5:
                return world.street.roofs();
            case 6:
                return world.sumOf(TURNED);
            default:
                return finding(BEYOND);
        }
    }

    // ---- what will be (nothing changes)

    public int ahead(int umbrella, int what, int n) {
        if (!isUmbrella(umbrella) || what < AT || what > WET || !isWithin(n, 100)) {
            return finding(BEYOND);
        }
        startWalk(umbrella);
        for (int i = 0; i < n; i++) {
            walk.goOn();
        }
        return walk.walker.mark(what);
    }

    public int home(int umbrella) {
        if (!isUmbrella(umbrella)) {
            return finding(BEYOND);
        }
        startWalk(umbrella);
        int ticks = walk.ticksHome();
        return ticks < 0 ? finding(NONE) : ticks;
    }

    public int homeWith(int umbrella, int what) {
        if (!isUmbrella(umbrella) || (what != WET && what != TURNED && what != RIBS)) {
            return finding(BEYOND);
        }
        startWalk(umbrella);
        return walk.ticksHome() < 0 ? finding(NONE) : walk.walker.mark(what);
    }

    public int whup(int umbrella) {
        if (!isUmbrella(umbrella)) {
            return finding(BEYOND);
        }
        startWalk(umbrella);
        int ticks = walk.ticksTillTurned();
        return ticks < 0 ? finding(NONE) : ticks;
    }

    public int first() {
        int best = -1;
        int fewest = 0;
        for (int u = 0; u < world.size; u++) {
            startWalk(u);
            int ticks = walk.ticksHome();
            if (ticks >= 0 && (best < 0 || ticks < fewest)) {
                best = u;
                fewest = ticks;
            }
        }
        return best < 0 ? finding(NONE) : best;
    }

    // ---- how to go

    public int habitFor(int umbrella) {
        return driest(umbrella, HABIT, HABITS);
    }

    public int heldFor(int umbrella) {
        return driest(umbrella, HELD, HOLDS);
    }

    public int kindFor(int umbrella) {
        return driest(umbrella, KIND, KINDS);
    }

    public int roofFor(int umbrella) {
        return driest(umbrella, ROOF_CHOICE, STEPS);
    }

    public int waitFor(int umbrella) {
        return driest(umbrella, WAIT_CHOICE, WAITS);
    }

    public int gustFor(int umbrella) {
        if (!isUmbrella(umbrella)) {
            return finding(BEYOND);
        }
        for (int gust = GREATEST_WEATHER; gust >= 0; gust--) {
            startWalk(umbrella);
            walk.street.gust = gust;
            if (walk.comesHomeUnturned()) {
                return gust;
            }
        }
        return finding(NONE);
    }

    public int ribsFor(int umbrella) {
        if (!isUmbrella(umbrella)) {
            return finding(BEYOND);
        }
        for (int ribs = 0; ribs <= GREATEST[RIBS]; ribs++) {
            startWalk(umbrella);
            walk.walker.ribs = ribs;
            if (walk.comesHomeUnturned()) {
                return ribs;
            }
        }
        return finding(NONE);
    }

    // ---- where it was

    public int fits(int s, int umbrella) {
        return fitting(s, umbrella, HABIT, HABITS);
    }

    public int kinds(int s, int umbrella) {
        return fitting(s, umbrella, KIND, KINDS);
    }

    // ---- gusts

    public int gusts(int n) {
        if (n < 1 || n > 20) {
            return finding(BEYOND);
        }
        if (world.street.tick + n > LAST_TICK) {
            return finding(STATE);
        }
        int wentOut = 0;
        for (int i = 0; i < n; i++) {
            int step = world.draw() % STEPS;
            int strength = world.draw() % 60;
            if (isStep(step)) {
                world.street.strength[step] = strength;
            }
            wentOut += world.passTick();
        }
        return wentOut;
    }

    public long odds(int n, int what) {
        if (!isWithin(n, 15) || !isWithin(what, 1)) {
            return finding(BEYOND);
        }
        int above = Integer.bitCount(world.street.roofs());
        int below = STEPS;
        for (int i = 0; i < 4 && above % 2 == 0; i++) {
            above = above / 2;
            below = below / 2;
        }
        long factor = what == 0 ? above : below;
        long power = 1;
        for (int i = 0; i < n; i++) {
            power = power * factor;
        }
        return power;
    }

    public int seed(int v) {
        int was = world.z;
        world.z = v;
        return was;
    }

    // ---- texts

    public int feed(int bytes, int n) {
        if (n < 1 || n > 4) {
            return finding(BEYOND);
        }
        if (tape.length + n > MOST_BYTES) {
            return finding(FULL);
        }
        tape.append(bytes, n);
        return tape.length;
    }

    public int wipe() {
        int had = tape.length;
        tape.length = 0;
        return had;
    }

    public int text() {
        draft.become(world);
        int answer = reader.readInto(draft);
        tape.length = 0;
        if (answer >= 0) {
            world.become(draft);
        }
        return answer;
    }

    // ---- spots, sheets

    public int hold(int spot, int umbrella) {
        if (!isSpot(spot) || (umbrella != NOTHING && !isUmbrella(umbrella))) {
            return finding(BEYOND);
        }
        world.spots[spot] = umbrella;
        return 1;
    }

    public int as(int spot, int kind) {
        if (!isSpot(spot) || !isKind(kind)) {
            return finding(BEYOND);
        }
        int umbrella = world.spots[spot];
        if (!isUmbrella(umbrella)) {
            return finding(MISSING);
        }
        return isUnder(world.umbrellas[umbrella].kind, kind) ? umbrella : finding(OTHER_KIND);
    }

    public int sheet(int s, int bits, int n) {
        if (!isSheet(s) || (bits != 0 && bits != 8 && bits != 16 && bits != 32)) {
            return finding(BEYOND);
        }
        if (n < 0) {
            return finding(SIZE);
        }
        if (n > MOST_NUMBERS) {
            return finding(BEYOND);
        }
        sheets[s].clear(bits, n);
        return sheets[s].size;
    }

    public int write(int s, int i, int v) {
        if (!isSheet(s)) {
            return finding(BEYOND);
        }
        Sheet sheet = sheets[s];
        if (sheet.isMissing()) {
            return finding(MISSING);
        }
        if (i < 0 || i >= sheet.size) {
            return finding(BEYOND);
        }
        sheet.put(i, v);
        return 1;
    }

    public int copy(int s, int from, int t, int to, int n) {
        if (!isSheet(s) || !isSheet(t)) {
            return finding(BEYOND);
        }
        Sheet source = sheets[s];
        Sheet target = sheets[t];
        if (source.isMissing() || target.isMissing()) {
            return finding(MISSING);
        }
        if (source.bits != target.bits) {
            return finding(OTHER_KIND);
        }
        if (!source.has(from, n) || !target.has(to, n)) {
            return finding(BEYOND);
        }
        System.arraycopy(source.numbers, from, target.numbers, to, n);
        return n;
    }

    public int load(int s) {
        if (!isSheet(s)) {
            return finding(BEYOND);
        }
        Sheet sheet = sheets[s];
        if (sheet.isMissing()) {
            return finding(MISSING);
        }
        int came = 0;
        while (came < sheet.size && came < STEPS
                && isWithin(sheet.numbers[came], GREATEST_STRENGTH)) {
            world.street.strength[came] = sheet.numbers[came];
            came++;
        }
        return came;
    }

    public int judge(int s) {
        if (!isSheet(s)) {
            return finding(BEYOND);
        }
        Sheet sheet = sheets[s];
        if (sheet.isMissing()) {
            return finding(MISSING);
        }
        for (int i = 0; i < sheet.size; i++) {
            if (!isStep(i) || sheet.numbers[i] != world.street.windOn(i)) {
                return 1 + i;
            }
        }
        return 0;
    }

    // ---- images

    public int image() {
        kept.become(world);
        somethingKept = true;
        return 1;
    }

    public int undo() {
        if (!somethingKept) {
            return finding(NONE);
        }
        world.become(kept);
        return world.street.tick;
    }

    public int tear() {
        int was = somethingKept ? 1 : 0;
        somethingKept = false;
        return was;
    }

    public int count(int what) {
        switch (what) {
            case 0:
                return world.street.tick;
            case 1:
                return world.size;
            case 2:
                return Integer.bitCount(world.setOf(AT, HOME));
            case 3:
                return world.sumOf(WET);
            case 4:
                return world.sumOf(RIBS);
            case 5:
                return tape.length;
            case 6:
                return world.z;
            case 7:
                return world.spotsHolding();
            default:
                return finding(BEYOND);
        }
    }

    public int status(int which) {
        if (which < -1 || which >= FINDINGS) {
            return finding(BEYOND);
        }
        if (which >= 0) {
            return findings[which];
        }
        int all = 0;
        for (int i = 0; i < FINDINGS; i++) {
            all += findings[i];
        }
        return all;
    }

    // ---- what the calls share

    private int finding(int which) {
        findings[which]++;
        return LOW - which;
    }

    private static boolean isWithin(int v, int greatest) {
        return v >= 0 && v <= greatest;
    }

    private static boolean isStep(int step) {
        return step >= 0 && step < STEPS;
    }

    private static boolean isKind(int kind) {
        return kind >= 0 && kind < KINDS;
    }

    private static boolean isSpot(int spot) {
        return spot >= 0 && spot < SPOTS;
    }

    private static boolean isSheet(int s) {
        return s >= 0 && s < SHEETS;
    }

    private boolean isUmbrella(int umbrella) {
        return umbrella >= 0 && umbrella < world.size;
    }

    /** Whether a kind is another one, or stands under it. */
    private static boolean isUnder(int kind, int above) {
        int k = kind;
        for (int i = 0; i < KINDS && isKind(k); i++) {
            if (k == above) {
                return true;
            }
            k = KIND_ABOVE[k];
        }
        return false;
    }

    private void startWalk(int umbrella) {
        if (isUmbrella(umbrella)) {
            walk.start(world.street, world.umbrellas[umbrella]);
        }
    }

    /** The least option of a choice with which an UMBRELLA is HOME least WET. */
    private int driest(int umbrella, int choice, int options) {
        if (!isUmbrella(umbrella)) {
            return finding(BEYOND);
        }
        int best = -1;
        int leastWet = 0;
        for (int option = 0; option < options; option++) {
            startWalk(umbrella);
            if (!walk.choose(choice, option) || walk.ticksHome() < 0) {
                continue;
            }
            if (best < 0 || walk.walker.wet < leastWet) {
                best = option;
                leastWet = walk.walker.wet;
            }
        }
        return best < 0 ? finding(NONE) : best;
    }

    /** The options of a choice with which an UMBRELLA is where a sheet tells, as a set. */
    private int fitting(int s, int umbrella, int choice, int options) {
        if (!isSheet(s)) {
            return finding(BEYOND);
        }
        if (sheets[s].isMissing()) {
            return finding(MISSING);
        }
        if (!isUmbrella(umbrella)) {
            return finding(BEYOND);
        }
        int set = 0;
        for (int option = 0; option < options; option++) {
            startWalk(umbrella);
            if (walk.choose(choice, option) && walk.follows(sheets[s])) {
                set |= 1 << option;
            }
        }
        return set;
    }

    /** THE STREET with its weather and the TICK, by which the wind is told. */
    private static final class Street {
        final int[] from = new int[STEPS];
        final int[] strength = new int[STEPS];
        final int[] roof = new int[STEPS];
        int rain = 8;
        int gust = 20;
        int tick = 0;

        Street() {
            Arrays.fill(strength, 10);
        }

        void setTo(Street other) {
            System.arraycopy(other.from, 0, from, 0, STEPS);
            System.arraycopy(other.strength, 0, strength, 0, STEPS);
            System.arraycopy(other.roof, 0, roof, 0, STEPS);
            rain = other.rain;
            gust = other.gust;
            tick = other.tick;
        }

        int windOn(int step) {
            if (!isStep(step)) {
                return 0;
            }
            int wind = strength[step];
            if (tick % 3 == 2) {
                wind += gust;
            }
            return roof[step] == 1 ? wind / 2 : wind;
        }

        int roofs() {
            int set = 0;
            for (int step = 0; step < STEPS; step++) {
                if (roof[step] == 1) {
                    set |= 1 << step;
                }
            }
            return set;
        }

        void nextTick(int ticks) {
            tick = Math.min(LAST_TICK, tick + ticks);
        }
    }

    private static final class Umbrella {
        int kind;
        int at;
        int held;
        int habit;
        int ribs;
        int out;
        int turned;
        int wet;

        void beNew(int newKind) {
            kind = newKind;
            at = 0;
            held = LEFT;
            habit = 0;
            ribs = 8;
            out = 0;
            turned = 0;
            wet = 0;
        }

        void setTo(Umbrella other) {
            kind = other.kind;
            at = other.at;
            held = other.held;
            habit = other.habit;
            ribs = other.ribs;
            out = other.out;
            turned = other.turned;
            wet = other.wet;
        }

        int mark(int what) {
            switch (what) {
                case KIND:
                    return kind;
                case AT:
                    return at;
                case HELD:
                    return held;
                case HABIT:
                    return habit;
                case RIBS:
                    return ribs;
                case OUT:
                    return out;
                case TURNED:
                    return turned;
                default:
                    return wet;
            }
        }

        void setMark(int what, int v) {
            switch (what) {
                case KIND:
                    kind = v;
                    break;
                case AT:
                    at = v;
                    break;
                case HELD:
                    held = v;
                    break;
                case HABIT:
                    habit = v;
                    break;
                case RIBS:
                    ribs = v;
                    break;
                case OUT:
                    out = v;
                    break;
                case TURNED:
                    turned = v;
                    break;
                default:
                    wet = v;
                    break;
            }
        }

        int stiff() {
            int plain = 5 * ribs;
            int big = Math.max(0, plain - 10);
            int small = plain + 15;
            int bent = Math.max(0, small - wet / 100);
            switch (kind) {
                case BIG:
                    return big;
                case GOLF:
                    return big / 2;
                case SMALL:
                    return small;
                case BENT:
                    return bent;
                case BINNED:
                    return bent / 2;
                case PAPER:
                    return 5;
                default:
                    return plain;
            }
        }

        static int bearable(int stiff, int from, int held) {
            if (held == from) {
                return 2 * stiff;
            }
            boolean across = (held == LEFT && from == RIGHT) || (held == RIGHT && from == LEFT);
            return across ? stiff / 2 : stiff;
        }

        int covers(Street street) {
            int rain = street.rain;
            int big = rain / 2 + rain / 4;
            int bent = Math.max(0, rain / 3 - 1);
            switch (kind) {
                case BIG:
                    return big;
                case GOLF:
                    return Math.min(rain, big + 2);
                case SMALL:
                    return rain / 3;
                case BENT:
                    return bent;
                case BINNED:
                    return street.tick % 2 == 0 ? bent : 0;
                case PAPER:
                    return wet < 50 ? Math.min(rain, 4) : 0;
                default:
                    return rain / 2;
            }
        }

        int pace(int tick) {
            switch (kind) {
                case GOLF:
                    return tick % 2 == 0 ? 1 : 0;
                case BINNED:
                case PAPER:
                    return 2;
                default:
                    return 1;
            }
        }

        /** One TICK of this UMBRELLA alone: whether it went OUT. */
        boolean walkOn(Street street) {
            if (!isStep(at)) {
                return false;
            }
            int from = street.from[at];
            int fromNext = street.from[Math.min(STEPS - 1, at + 1)];
            int wind = street.windOn(at);
            int stiff = stiff();
            holdByHabit(from, fromNext, wind > bearable(stiff, from, from));
            boolean wentOut = turn(from, wind > bearable(stiff, from, held));
            if (street.roof[at] == 0) {
                int covered = held == SHUT || out == 1 ? 0 : covers(street);
                wet = Math.min(GREATEST[WET], wet + street.rain - covered);
            }
            if (out == 0) {
                at = Math.min(HOME, at + pace(street.tick));
            }
            return wentOut;
        }

        private void holdByHabit(int from, int fromNext, boolean tooWindy) {
            switch (habit) {
                case 1:
                    held = from;
                    break;
                case 2:
                    held = fromNext;
                    break;
                case 3:
                    held = tooWindy ? SHUT : from;
                    break;
                default:
                    break;
            }
        }

        /** It snaps back or goes OUT, never both in one TICK: whether it went OUT. */
        private boolean turn(int from, boolean tooWindy) {
            if (out == 1) {
                if (held == from) {
                    out = 0;
                }
                return false;
            }
            if (held == SHUT || !tooWindy) {
                return false;
            }
            out = 1;
            turned = Math.min(GREATEST[TURNED], turned + 1);
            ribs = Math.max(0, ribs - 1);
            return true;
        }
    }

    /** All that an image keeps. */
    private static final class World {
        final Street street = new Street();
        final Umbrella[] umbrellas = new Umbrella[MOST_UMBRELLAS];
        int size = 0;
        final int[] spots = new int[SPOTS];
        int z = 1;

        World() {
            for (int u = 0; u < MOST_UMBRELLAS; u++) {
                umbrellas[u] = new Umbrella();
            }
            Arrays.fill(spots, NOTHING);
        }

        void become(World other) {
            street.setTo(other.street);
            for (int u = 0; u < MOST_UMBRELLAS; u++) {
                umbrellas[u].setTo(other.umbrellas[u]);
            }
            size = other.size;
            System.arraycopy(other.spots, 0, spots, 0, SPOTS);
            z = other.z;
        }

        boolean isFull() {
            return size >= MOST_UMBRELLAS;
        }

        /** A new UMBRELLA, for which there must be room: its number. */
        int addUmbrella(int kind) {
            int number = size;
            if (number < MOST_UMBRELLAS) {
                umbrellas[number].beNew(kind);
                size = number + 1;
            }
            return number;
        }

        /** One TICK of all: how many went OUT. */
        int passTick() {
            int wentOut = 0;
            for (int u = 0; u < size; u++) {
                if (umbrellas[u].walkOn(street)) {
                    wentOut++;
                }
            }
            street.nextTick(1);
            return wentOut;
        }

        int draw() {
            z = z * 1103515245 + 12345;
            return z >>> 8;
        }

        int setOf(int what, int v) {
            int set = 0;
            for (int u = 0; u < size; u++) {
                if (umbrellas[u].mark(what) == v) {
                    set |= 1 << u;
                }
            }
            return set;
        }

        int sumOf(int what) {
            int sum = 0;
            for (int u = 0; u < size; u++) {
                sum += umbrellas[u].mark(what);
            }
            return sum;
        }

        int spotsHolding() {
            int holding = 0;
            for (int spot = 0; spot < SPOTS; spot++) {
                if (spots[spot] != NOTHING) {
                    holding++;
                }
            }
            return holding;
        }
    }

    /** A walk of one UMBRELLA on a street of its own, made once and started anew for each try. */
    private static final class Walk {
        final Street street = new Street();
        final Umbrella walker = new Umbrella();

        void start(Street on, Umbrella who) {
            street.setTo(on);
            walker.setTo(who);
        }

        /** Takes an option of a choice, if it is to be had. */
        boolean choose(int choice, int option) {
            if (choice == ROOF_CHOICE) {
                if (!isStep(option) || street.roof[option] == 1) {
                    return false;
                }
                street.roof[option] = 1;
            } else if (choice == WAIT_CHOICE) {
                street.nextTick(option);
            } else {
                walker.setMark(choice, option);
            }
            return true;
        }

        void goOn() {
            walker.walkOn(street);
            street.nextTick(1);
        }

        /** The fewest TICKS behind which it is HOME, or -1. */
        int ticksHome() {
            for (int ticks = 0; ticks < FAR; ticks++) {
                if (walker.at == HOME) {
                    return ticks;
                }
                goOn();
            }
            return walker.at == HOME ? FAR : -1;
        }

        /** The fewest TICKS behind which TURNED is more, or -1. */
        int ticksTillTurned() {
            int turned = walker.turned;
            for (int ticks = 1; ticks <= FAR; ticks++) {
                goOn();
                if (walker.turned > turned) {
                    return ticks;
                }
            }
            return -1;
        }

        boolean comesHomeUnturned() {
            int turned = walker.turned;
            for (int ticks = 0; ticks < FAR && walker.at != HOME; ticks++) {
                goOn();
                if (walker.turned != turned) {
                    return false;
                }
            }
            return walker.at == HOME;
        }

        /** Whether it is where a sheet tells, now and behind each TICK further on. */
        boolean follows(Sheet sheet) {
            for (int i = 0; i < sheet.size; i++) {
                if (sheet.numbers[i] != -1 && sheet.numbers[i] != walker.at) {
                    return false;
                }
                goOn();
            }
            return true;
        }
    }

    private static final class Sheet {
        final int[] numbers = new int[MOST_NUMBERS];
        int bits = 0;
        int size = 0;

        boolean isMissing() {
            return bits == 0;
        }

        void clear(int newBits, int n) {
            Arrays.fill(numbers, 0);
            bits = newBits;
            size = newBits == 0 ? 0 : n;
        }

        boolean has(int from, int n) {
            return from >= 0 && n >= 0 && n <= size && from <= size - n;
        }

        void put(int i, int v) {
            if (i < 0 || i >= size) {
                return;
            }
            if (bits == 8) {
                numbers[i] = (byte) v;
            } else if (bits == 16) {
                numbers[i] = (short) v;
            } else {
                numbers[i] = v;
            }
        }
    }

    private static final class Tape {
        final int[] bytes = new int[MOST_BYTES];
        int length = 0;

        void append(int number, int n) {
            for (int i = n - 1; i >= 0 && length < MOST_BYTES; i--) {
                bytes[length] = (number >>> (8 * i)) & 255;
                length++;
            }
        }

        /** The byte at a place, or -1 where there is none. */
        int byteAt(int place) {
            return place >= 0 && place < length ? bytes[place] : -1;
        }
    }

    /** Reads the TEXT on THE TAPE; the FAULT is the place of the TOKEN at which it stops. */
    private static final class Reader {
        private static final int END = 0;
        private static final int WORD = 1;
        private static final int NUMBER = 2;
        private static final int SEMICOLON = 3;
        private static final int NO_TOKEN = 4;
        private static final int TOO_GREAT = 1000;

        final Tape tape;
        int place = 0;
        int behind = 0;
        int token = END;
        int number = 0;

        Reader(Tape tape) {
            this.tape = tape;
        }

        /** All that the TEXT tells comes into a world: how many ITEMS, or -1 less the FAULT. */
        int readInto(World into) {
            behind = 0;
            readToken();
            for (int items = 1; items <= MOST_BYTES; items++) {
                if (!readItem(into)) {
                    return -1 - place;
                }
                if (token == END) {
                    return items;
                }
                if (token != SEMICOLON) {
                    return -1 - place;
                }
                readToken();
            }
            return -1 - place;
        }

        private boolean readItem(World into) {
            for (int kind = 0; kind < KINDS; kind++) {
                if (isWord(wordOfKind(kind))) {
                    return readUmbrella(into, kind);
                }
            }
            for (int from = 0; from < 3; from++) {
                if (isWord(wordOfFrom(from))) {
                    return readWind(into.street, from);
                }
            }
            if (isWord("roof")) {
                return readRoof(into.street, 1);
            }
            if (isWord("open")) {
                return readRoof(into.street, 0);
            }
            if (isWord("rain")) {
                return readWeather(into.street, true);
            }
            return isWord("gust") && readWeather(into.street, false);
        }

        private boolean readUmbrella(World into, int kind) {
            if (into.isFull()) {
                return false;
            }
            Umbrella one = into.umbrellas[into.addUmbrella(kind)];
            readToken();
            return readMark(one, "at", AT)
                    && readMark(one, "ribs", RIBS)
                    && readMark(one, "held", HELD)
                    && readMark(one, "habit", HABIT);
        }

        /** A WORD that may be there, and the NUMBER that must stand behind it. */
        private boolean readMark(Umbrella one, String word, int what) {
            if (!isWord(word)) {
                return true;
            }
            int v = nextNumber(GREATEST[what]);
            if (v < 0) {
                return false;
            }
            one.setMark(what, v);
            readToken();
            return true;
        }

        private boolean readWind(Street street, int from) {
            int step = nextNumber(STEPS - 1);
            if (!isStep(step)) {
                return false;
            }
            int strength = nextNumber(GREATEST_STRENGTH);
            if (strength < 0) {
                return false;
            }
            street.from[step] = from;
            street.strength[step] = strength;
            readToken();
            return true;
        }

        private boolean readRoof(Street street, int roof) {
            int step = nextNumber(STEPS - 1);
            if (!isStep(step)) {
                return false;
            }
            street.roof[step] = roof;
            readToken();
            return true;
        }

        private boolean readWeather(Street street, boolean isRain) {
            int v = nextNumber(GREATEST_WEATHER);
            if (v < 0) {
                return false;
            }
            if (isRain) {
                street.rain = v;
            } else {
                street.gust = v;
            }
            readToken();
            return true;
        }

        /** Goes to the next TOKEN: the NUMBER that it is, or -1 if it is none up to the greatest. */
        private int nextNumber(int greatest) {
            readToken();
            return token == NUMBER && number <= greatest ? number : -1;
        }

        private boolean isWord(String word) {
            if (token != WORD || word.length() != behind - place) {
                return false;
            }
            for (int i = 0; i < word.length(); i++) {
                if (word.charAt(i) != tape.byteAt(place + i)) {
                    return false;
                }
            }
            return true;
        }

        private void readToken() {
            place = behind;
            while (place < tape.length && tape.byteAt(place) == ' ') {
                place++;
            }
            token = tokenOf(tape.byteAt(place));
            boolean isLong = token == WORD || token == NUMBER;
            int end = isLong ? tape.length : Math.min(tape.length, place + 1);
            number = 0;
            for (behind = place; behind < end && tokenOf(tape.byteAt(behind)) == token; behind++) {
                if (token == NUMBER) {
                    // What is too great stays so, however many digits there are.
                    number = Math.min(TOO_GREAT, 10 * number + tape.byteAt(behind) - '0');
                }
            }
        }

        /** The sort of TOKEN that a byte begins. */
        private static int tokenOf(int b) {
            if (b < 0) {
                return END;
            }
            if (b >= 'a' && b <= 'z') {
                return WORD;
            }
            if (b >= '0' && b <= '9') {
                return NUMBER;
            }
            return b == ';' ? SEMICOLON : NO_TOKEN;
        }

        private static String wordOfKind(int kind) {
            switch (kind) {
                case BIG:
                    return "big";
                case SMALL:
                    return "small";
                case BENT:
                    return "bent";
                case BINNED:
                    return "binned";
                case PAPER:
                    return "paper";
                case GOLF:
                    return "golf";
                default:
                    return "umbrella";
            }
        }

        private static String wordOfFrom(int from) {
            switch (from) {
                case LEFT:
                    return "left";
                case RIGHT:
                    return "right";
                default:
                    return "below";
            }
        }
    }
}
