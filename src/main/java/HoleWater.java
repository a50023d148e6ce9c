import java.util.Arrays;

/** Where does it come out: the water of holes, below and at springs. The document has the promises. */
public final class HoleWater {
    private static final int LOW = -1000000;
    private static final int BEYOND = 1;
    private static final int NONE = 2;
    private static final int STATE = 3;
    private static final int FULL = 4;
    private static final int KIND = 5;
    private static final int PARTED = 6;
    private static final int ERRORS = 6;

    private static final int HOLE = 0;
    private static final int SPRING = 2;
    private static final int SEA = 3;
    private static final int MOST_JOINTS = 16;
    private static final int MOST_PLACE = 99;

    private static final int KINDS = 6;
    private static final int MOST_WAYS = 24;
    private static final int MOST_LONG = 20;
    private static final int MOST_N = 99;
    /** A SIEVE of the greatest LONG takes so many HOURS. */
    private static final int MOST_TAKEN = 40;

    private static final int COLOURS = 4;
    /** WATER is thing 0, a COLOUR is the thing one above its number. */
    private static final int THINGS = 5;
    private static final int SPILT = 3;
    private static final int MOST_GRAINS = 9999;
    private static final int MOST_FADE = 99;

    private static final int DAY = 24;
    private static final int LATEST_HOUR = 999;
    private static final int MOST_HOURS = 60;

    /** Places in the sums of a COLOUR, as stuff() asks for them. */
    private static final int PUT_IN = 0;
    private static final int BELOW = 1;
    private static final int STUCK = 2;
    private static final int FADED = 3;
    private static final int LOST = 4;
    private static final int OUT_SPRING = 5;
    private static final int OUT_SEA = 6;
    private static final int SUMS = 7;

    private static final int MOST_BYTES = 60;
    private static final int MOST_CASES = 6;
    private static final int MOST_OPEN = 4;
    private static final int MOST_DIGITS = 3;
    /** Steps of a TEXT: NUMBERS are themselves, NAMES stand above them, a sign is below 0. */
    private static final int FIRST_NAME = 1000;
    private static final int TEST_ENDS = -'&';
    private static final int CASE_ENDS = -';';
    /** No byte makes more than one step; the last CASE ends without a byte. */
    private static final int MOST_STEPS = MOST_BYTES + 1;
    private static final int RAIN_USE = 0;
    private static final int SEEN_USE = 1;
    private static final String RAIN_NAMES = "hdkf";
    private static final String SEEN_NAMES = "wcs";
    private static final int MOST_RAIN = 999;
    private static final int PLAIN_RAIN = 10;
    private static final int PLAIN_SEEN = 5;

    private static final int MOST_PUTS = 40;
    private static final int PUT_PARTS = 4;
    private static final int MOST_LOOKS = 60;
    private static final int LOOK_PARTS = 8;
    private static final int LOOK_ASKED = 6;
    private static final int SURE = 3;
    private static final int MAY = 2;
    private static final int NOT_YET = 1;
    private static final int NOTHING = 0;
    private static final int ALL_WATER = 0;
    private static final int DRY = 1;
    private static final int IN_FLOOD = 2;
    private static final int MOST_SIDE = 5;

    private static final int TELLS = 3;
    private static final int MOST_TRACE = 30;
    private static final int SHEETS = 4;
    private static final int MOST_NUMBERS = 24;
    private static final int MOST_POURED = 9;
    private static final int MOST_WAITING = 24;

    private final World world = new World();
    private final World kept = new World();
    private final Water trial = new Water();
    private final Reader reader = new Reader();
    private final Row trace = new Row(MOST_TRACE);
    private final int[] errors = new int[ERRORS + 1];
    private final int[] sheetBits = new int[SHEETS];
    private final int[] sheetSizes = new int[SHEETS];
    private final int[] sheetNumbers = new int[SHEETS * MOST_NUMBERS];
    private final int[] soonest = new int[MOST_JOINTS];
    private int images = 0;

    public HoleWater() {
    }

    // ---- joints and ways

    public int joint(int sort, int east, int height) {
        if (!within(sort, HOLE, SEA) || !within(east, 0, MOST_PLACE) || !within(height, 0, MOST_PLACE)) {
            return error(BEYOND);
        }
        if (world.joints >= MOST_JOINTS) {
            return error(FULL);
        }
        return world.addJoint(sort, east, height);
    }

    public int jointIs(int joint, int what) {
        if (!world.isJoint(joint)) {
            return error(BEYOND);
        }
        switch (what) {
            case 0:
                return world.sorts[joint];
            case 1:
                return world.easts[joint];
            case 2:
                return world.heights[joint];
            case 3:
                return world.water.at[joint * THINGS];
            case 4:
                return world.water.lastOut[joint];
            case 5:
                return world.water.everOut[joint];
            case 6:
                return bit(world.towns, joint);
            default:
                return error(BEYOND);
        }
    }

    public int way(int kind, int ends, int time, int n) {
        if (!within(kind, 0, KINDS - 1) || ends < 0 || !world.isJoint(ends / 100) || !world.isJoint(ends % 100)
                || !within(time, 1, MOST_LONG) || !within(n, 1, MOST_N)) {
            return error(BEYOND);
        }
        int from = ends / 100;
        int to = ends % 100;
        if (world.isOutlet(from) || world.isOf(to, HOLE)) {
            return error(KIND);
        }
        if (world.heights[to] >= world.heights[from]) {
            return error(STATE);
        }
        if (world.wayCount >= MOST_WAYS) {
            return error(FULL);
        }
        return world.addWay(makeWay(kind, from, to, time, n));
    }

    public int as(int way, int kind) {
        if (!world.isWay(way) || !within(kind, 0, KINDS - 1)) {
            return error(BEYOND);
        }
        Way asked = world.ways[way];
        return isUnder(asked, kind) ? asked.takes() : error(KIND);
    }

    public int wayIs(int way, int what) {
        if (!world.isWay(way)) {
            return error(BEYOND);
        }
        Way asked = world.ways[way];
        switch (what) {
            case 0:
                return asked.kind();
            case 1:
                return asked.from;
            case 2:
                return asked.to;
            case 3:
                return asked.length;
            case 4:
                return asked.n;
            case 5:
                return asked.takes();
            case 6:
                return world.water.inWay(way, 0);
            default:
                return error(BEYOND);
        }
    }

    public int hangs(int joint, boolean may) {
        if (!world.isJoint(joint)) {
            return error(BEYOND);
        }
        int reached = 1 << joint;
        for (int round = 0; round < world.joints; round++) {
            for (int w = 0; w < world.wayCount; w++) {
                Way by = world.ways[w];
                boolean open = !(by instanceof Blind) && (may || !(by instanceof Overflow));
                if (open && bit(reached, by.to) == 1) {
                    reached |= 1 << by.from;
                }
            }
        }
        return reached & world.bitsOf(HOLE);
    }

    public int quick(int from, int to) {
        if (!world.isJoint(from) || !world.isJoint(to)) {
            return error(BEYOND);
        }
        Arrays.fill(soonest, -1);
        soonest[from] = 0;
        for (int round = 0; round < world.joints; round++) {
            for (int w = 0; w < world.wayCount; w++) {
                goAlong(world.ways[w]);
            }
        }
        return soonest[to] < 0 ? error(NONE) : soonest[to];
    }

    // ---- water, colours

    public int flood(boolean is) {
        int was = world.water.inFlood ? 1 : 0;
        world.water.inFlood = is;
        return was;
    }

    public int fade(int colour, int v) {
        if (!isColour(colour) || !within(v, 0, MOST_FADE)) {
            return error(BEYOND);
        }
        int was = world.water.fades[colour];
        world.water.fades[colour] = v;
        return was;
    }

    public int hours(int n) {
        if (!within(n, 1, MOST_HOURS)) {
            return error(BEYOND);
        }
        if (world.water.now + n > LATEST_HOUR) {
            return error(STATE);
        }
        for (int i = 0; i < n; i++) {
            world.water.passHour(world, reader);
        }
        return world.water.now;
    }

    public int put(int hole, int colour, int grains) {
        if (!world.isJoint(hole) || !isColour(colour) || !within(grains, 1, MOST_GRAINS)) {
            return error(BEYOND);
        }
        if (!world.isOf(hole, HOLE)) {
            return error(KIND);
        }
        if (world.looks.putCount >= MOST_PUTS) {
            return error(FULL);
        }
        return world.putIn(hole, colour, grains);
    }

    public int putIs(int put, int what) {
        if (put < 0 || put >= world.looks.putCount || !within(what, 0, PUT_PARTS - 1)) {
            return error(BEYOND);
        }
        return world.looks.puts[put * PUT_PARTS + what];
    }

    public int pours(int hole, int colour, int sheet, int i, int n) {
        if (!world.isJoint(hole) || !isColour(colour) || !isSheet(sheet) || !within(n, 0, MOST_POURED)) {
            return error(BEYOND);
        }
        if (!world.isOf(hole, HOLE)) {
            return error(KIND);
        }
        if (sheetBits[sheet] == 0) {
            return error(NONE);
        }
        int poured = 0;
        for (int k = 0; k < n; k++) {
            // The first number that doesn't stand there ends this, so that i + k can't have wrapped.
            if (!within(i + k, 0, sheetSizes[sheet] - 1)) {
                return error(BEYOND);
            }
            int grains = sheetNumbers[sheet * MOST_NUMBERS + i + k];
            if (within(grains, 1, MOST_GRAINS)) {
                if (world.looks.putCount >= MOST_PUTS) {
                    return error(FULL);
                }
                world.putIn(hole, colour, grains);
                poured++;
            }
        }
        return poured;
    }

    public int grains(int joint, int colour) {
        if (!world.isJoint(joint) || !isColour(colour)) {
            return error(BEYOND);
        }
        return world.water.at[joint * THINGS + 1 + colour];
    }

    public int stuff(int colour, int what) {
        if (!isColour(colour) || !within(what, 0, SUMS - 1)) {
            return error(BEYOND);
        }
        return what == BELOW ? world.allBelow(1 + colour) : world.water.sums[colour * SUMS + what];
    }

    public int out(int joint, int colour, int ago) {
        if (!world.isJoint(joint) || !isColour(colour) || !within(ago, 1, DAY)) {
            return error(BEYOND);
        }
        return world.isOutlet(joint) ? world.water.cameOut(joint, colour, ago) : error(KIND);
    }

    public int spill(int hole, int grains, int joint, int n) {
        int wrong = spillError(hole, grains, joint);
        if (wrong == BEYOND || !within(n, 1, MOST_HOURS)) {
            return error(BEYOND);
        }
        if (wrong != 0) {
            return error(wrong);
        }
        trial.startSpill(world.water, hole, grains);
        int sum = 0;
        for (int i = 0; i < n; i++) {
            trial.passHour(world, reader);
            sum += trial.cameOut(joint, SPILT, 1);
        }
        return sum;
    }

    public int first(int hole, int grains, int joint) {
        int wrong = spillError(hole, grains, joint);
        if (wrong != 0) {
            return error(wrong);
        }
        trial.startSpill(world.water, hole, grains);
        for (int i = 1; i <= MOST_HOURS; i++) {
            trial.passHour(world, reader);
            if (trial.cameOut(joint, SPILT, 1) > 0) {
                return i;
            }
        }
        return error(NONE);
    }

    // ---- texts

    public int feed(long word, int n) {
        if (!within(n, 1, 8)) {
            return error(BEYOND);
        }
        if (world.tape.count + n > MOST_BYTES) {
            return error(FULL);
        }
        for (int i = 0; i < n; i++) {
            world.tape.add((int) (word >>> (8 * i)) & 255);
        }
        return world.tape.count;
    }

    public int text(int use) {
        if (!within(use, RAIN_USE, SEEN_USE)) {
            return error(BEYOND);
        }
        int cases = reader.casesOf(world.tape, use == RAIN_USE ? RAIN_NAMES : SEEN_NAMES);
        if (cases > 0) {
            Row old = use == RAIN_USE ? world.rainText : world.seenText;
            old.copyOf(reader.steps);
        }
        world.tape.count = 0;
        return cases;
    }

    public int rain(int hole) {
        if (!world.isJoint(hole)) {
            return error(BEYOND);
        }
        return world.isOf(hole, HOLE) ? world.rainOn(hole, world.water, reader) : error(KIND);
    }

    public int seen(int spring, int colour, int sort) {
        if (!world.isJoint(spring) || !isColour(colour) || !within(sort, 0, 1)) {
            return error(BEYOND);
        }
        return world.isOf(spring, SPRING) ? world.seenAt(spring, colour, sort, reader) : error(KIND);
    }

    // ---- looks

    public int bottle(int spring, int colour) {
        int wrong = lookError(spring, colour);
        if (wrong != 0) {
            return error(wrong);
        }
        int grains = world.water.cameOut(spring, colour, 1);
        return lookSees(spring, colour, 0, grains) ? grains : 0;
    }

    public int bag(int spring, int colour, int n) {
        int wrong = lookError(spring, colour);
        if (wrong == BEYOND || !within(n, 1, DAY)) {
            return error(BEYOND);
        }
        if (wrong != 0) {
            return error(wrong);
        }
        int grains = 0;
        for (int ago = 1; ago <= n; ago++) {
            grains += world.water.cameOut(spring, colour, ago);
        }
        return lookSees(spring, colour, n, grains) ? 1 : 0;
    }

    public int lookIs(int look, int what) {
        if (look < 0 || look >= world.looks.lookCount || !within(what, 0, LOOK_ASKED - 1)) {
            return error(BEYOND);
        }
        return world.looks.looks[look * LOOK_PARTS + what];
    }

    public int joined(int hole, int spring, int water) {
        int wrong = pairError(hole, spring);
        if (wrong == BEYOND || !within(water, ALL_WATER, IN_FLOOD)) {
            return error(BEYOND);
        }
        return wrong != 0 ? error(wrong) : world.looks.said(hole, spring, water);
    }

    public int never(int hole, int spring) {
        int wrong = pairError(hole, spring);
        return wrong != 0 ? error(wrong) : world.looks.inVain(hole, spring);
    }

    public int span(int hole, int spring, int colour, int end) {
        int wrong = pairError(hole, spring);
        if (wrong == BEYOND || !isColour(colour) || !within(end, 0, 1)) {
            return error(BEYOND);
        }
        if (wrong != 0) {
            return error(wrong);
        }
        int only = world.looks.onlyPut(colour);
        if (only < 0 || world.looks.putPart(only, 0) != hole) {
            return error(STATE);
        }
        int saw = world.looks.firstSaw(spring, colour);
        if (saw < 0) {
            return error(NONE);
        }
        int look = end == 1 ? saw : world.looks.latestVain(spring, hole, colour, saw);
        return look < 0 ? 0 : world.looks.lookPart(look, 2) - world.looks.putPart(only, 3);
    }

    public int musts(int i, int what) {
        if (i < 0 || !within(what, 0, 2)) {
            return error(BEYOND);
        }
        int ahead = 0;
        for (int hole = 0; hole < world.joints; hole++) {
            for (int spring = 0; spring < world.joints; spring++) {
                if (isMust(hole, spring)) {
                    if (ahead == i) {
                        return what == 0 ? hole : what == 1 ? spring : world.heights[hole] - world.heights[spring];
                    }
                    ahead++;
                }
            }
        }
        return error(NONE);
    }

    public int crosses(int a, int x, int b, int y) {
        int one = pairError(a, x);
        int other = pairError(b, y);
        if (one == BEYOND || other == BEYOND || a == b || x == y) {
            return error(BEYOND);
        }
        if (one != 0 || other != 0) {
            return error(KIND);
        }
        Looks looks = world.looks;
        boolean unmixed = looks.said(a, x, ALL_WATER) == SURE && looks.said(b, y, ALL_WATER) == SURE
                && looks.said(a, y, ALL_WATER) < MAY && looks.said(b, x, ALL_WATER) < MAY;
        return unmixed && world.parts(a, x, b, y) && world.parts(b, y, a, x) ? 1 : 0;
    }

    public int rooms(int holes, int springs) {
        int known = (1 << world.joints) - 1;
        if ((holes & ~known) != 0 || (springs & ~known) != 0) {
            return error(BEYOND);
        }
        if ((holes & ~world.bitsOf(HOLE)) != 0 || (springs & ~world.bitsOf(SPRING)) != 0) {
            return error(KIND);
        }
        if (Integer.bitCount(holes) > MOST_SIDE || Integer.bitCount(springs) > MOST_SIDE) {
            return error(FULL);
        }
        return world.looks.fewestRooms(holes, springs);
    }

    public int town(int spring, boolean is) {
        if (!world.isJoint(spring)) {
            return error(BEYOND);
        }
        if (!world.isOf(spring, SPRING)) {
            return error(KIND);
        }
        int was = bit(world.towns, spring);
        world.towns = is ? world.towns | 1 << spring : world.towns & ~(1 << spring);
        return was;
    }

    public int night(int holes, int springs, int what) {
        if (!within(holes, 1, 4) || !within(springs, 1, 6) || !within(what, 0, 2)) {
            return error(BEYOND);
        }
        int free = world.bitsOf(HOLE) & ~world.looks.holesKnownAt(world.towns);
        int all = world.bitsOf(SPRING);
        if (Integer.bitCount(free) < holes || Integer.bitCount(all) < springs) {
            return error(NONE);
        }
        world.looks.planNight(free, all, holes, springs);
        return world.looks.plan[what];
    }

    public int share(int colour) {
        if (!isColour(colour)) {
            return error(BEYOND);
        }
        return world.water.sums[colour * SUMS + PUT_IN] - world.looks.seenInBottles(colour);
    }

    // ---- voices, sheets, images, what is told

    public int voice(int way, int act, int x) {
        if (!world.isWay(way) || !within(act, 0, TELLS)) {
            return error(BEYOND);
        }
        Way asked = world.ways[way];
        trace.count = 0;
        switch (act) {
            case 0:
                return asked.runs(x, trace);
            case 1:
                return asked.holds(x, trace);
            case 2:
                return asked.spills(x, trace);
            default:
                int told = asked.tells(x, trace);
                return asked.isParted() ? error(PARTED) : told;
        }
    }

    public int trace(int i) {
        return i < 0 || i >= trace.count ? error(NONE) : trace.get(i);
    }

    public int sheet(int sheet, int bits, int n) {
        if (!isSheet(sheet) || bits != 0 && bits != 8 && bits != 16 && bits != 32) {
            return error(BEYOND);
        }
        if (bits != 0 && n < 0) {
            return error(STATE);
        }
        if (bits != 0 && n > MOST_NUMBERS) {
            return error(BEYOND);
        }
        sheetBits[sheet] = bits;
        sheetSizes[sheet] = bits == 0 ? 0 : n;
        for (int i = 0; i < MOST_NUMBERS; i++) {
            sheetNumbers[sheet * MOST_NUMBERS + i] = 0;
        }
        return 1;
    }

    public int place(int sheet, int i, int v) {
        if (!isSheet(sheet)) {
            return error(BEYOND);
        }
        if (sheetBits[sheet] == 0) {
            return error(NONE);
        }
        if (!within(i, 0, sheetSizes[sheet] - 1)) {
            return error(BEYOND);
        }
        sheetNumbers[sheet * MOST_NUMBERS + i] = lowest(v, sheetBits[sheet]);
        return 1;
    }

    public int move(int sheet, int i, int other, int j, int n) {
        if (!isSheet(sheet) || !isSheet(other)) {
            return error(BEYOND);
        }
        if (sheetBits[sheet] == 0 || sheetBits[other] == 0) {
            return error(NONE);
        }
        if (sheetBits[sheet] != sheetBits[other]) {
            return error(KIND);
        }
        if (n < 0 || i < 0 || j < 0 || n > sheetSizes[sheet] - i || n > sheetSizes[other] - j) {
            return error(BEYOND);
        }
        System.arraycopy(sheetNumbers, sheet * MOST_NUMBERS + i, sheetNumbers, other * MOST_NUMBERS + j, n);
        return n;
    }

    public int image() {
        kept.copyOf(world);
        images++;
        return images;
    }

    public int restore() {
        if (images == 0) {
            return error(NONE);
        }
        world.copyOf(kept);
        return world.water.now;
    }

    public int tell(int v) {
        if (!world.waits.add(v)) {
            return error(FULL);
        }
        return world.waits.count;
    }

    public int check(int joint) {
        int waiting = world.waits.count;
        world.waits.count = 0;
        if (!world.isJoint(joint)) {
            return error(BEYOND);
        }
        if (!world.isOutlet(joint)) {
            return error(KIND);
        }
        trial.copyOf(world.water);
        for (int i = 0; i < waiting; i++) {
            trial.passHour(world, reader);
            if (trial.lastOut[joint] != world.waits.get(i)) {
                return 1 + i;
            }
        }
        return 0;
    }

    public int count(int what) {
        switch (what) {
            case 0:
                return world.water.now;
            case 1:
                return world.joints;
            case 2:
                return world.wayCount;
            case 3:
                return world.looks.putCount;
            case 4:
                return world.looks.lookCount;
            case 5:
                return world.looks.howManySaw();
            case 6:
                return world.tape.count;
            case 7:
                return world.waits.count;
            case 8:
                return trace.count;
            case 9:
                return world.water.inFlood ? 1 : 0;
            case 10:
                return world.water.lostWater;
            case 11:
                return world.allBelow(0);
            default:
                return error(BEYOND);
        }
    }

    public int told(int k) {
        return within(k, 1, ERRORS) ? errors[k] : error(BEYOND);
    }

    // ---- what the calls share

    private int error(int k) {
        if (within(k, 1, ERRORS)) {
            errors[k]++;
        }
        return LOW - k;
    }

    private static boolean within(int v, int least, int most) {
        return v >= least && v <= most;
    }

    private static boolean isColour(int colour) {
        return within(colour, 0, COLOURS - 1);
    }

    private static boolean isSheet(int sheet) {
        return within(sheet, 0, SHEETS - 1);
    }

    private static int bit(int bits, int i) {
        return bits >> i & 1;
    }

    /** Quotients are cut; by 0 it is 0. */
    private static int by(int v, int divisor) {
        return divisor == 0 ? 0 : v / divisor;
    }

    private static int held(int v, int least, int most) {
        return Math.max(least, Math.min(most, v));
    }

    private static int lowest(int v, int bits) {
        return bits == 8 ? (byte) v : bits == 16 ? (short) v : v;
    }

    private static Way makeWay(int kind, int from, int to, int length, int n) {
        switch (kind) {
            case 1:
                return new Open(from, to, length, n);
            case 2:
                return new Sieve(from, to, length, n);
            case 3:
                return new Overflow(from, to, length, n);
            case 4:
                return new Pool(from, to, length, n);
            case 5:
                return new Blind(from, to, length, n);
            default:
                return new Way(from, to, length, n);
        }
    }

    private static boolean isUnder(Way way, int kind) {
        switch (kind) {
            case 1:
                return way instanceof Open;
            case 2:
                return way instanceof Sieve;
            case 3:
                return way instanceof Overflow;
            case 4:
                return way instanceof Pool;
            case 5:
                return way instanceof Blind;
            default:
                return true;
        }
    }

    private void goAlong(Way way) {
        if (way instanceof Blind || soonest[way.from] < 0) {
            return;
        }
        int hours = soonest[way.from] + way.takes();
        if (soonest[way.to] < 0 || hours < soonest[way.to]) {
            soonest[way.to] = hours;
        }
    }

    private int spillError(int hole, int grains, int joint) {
        if (!world.isJoint(hole) || !within(grains, 1, MOST_GRAINS) || !world.isJoint(joint)) {
            return BEYOND;
        }
        return world.isOf(hole, HOLE) && world.isOutlet(joint) ? 0 : KIND;
    }

    private int lookError(int spring, int colour) {
        if (!world.isJoint(spring) || !isColour(colour)) {
            return BEYOND;
        }
        if (!world.isOf(spring, SPRING)) {
            return KIND;
        }
        return world.looks.lookCount >= MOST_LOOKS ? FULL : 0;
    }

    private int pairError(int hole, int spring) {
        if (!world.isJoint(hole) || !world.isJoint(spring)) {
            return BEYOND;
        }
        return world.isOf(hole, HOLE) && world.isOf(spring, SPRING) ? 0 : KIND;
    }

    private boolean lookSees(int spring, int colour, int n, int grains) {
        boolean sees = grains >= world.seenAt(spring, colour, n == 0 ? 0 : 1, reader);
        world.looks.addLook(spring, colour, n, grains, sees, world.water);
        return sees;
    }

    private boolean isMust(int hole, int spring) {
        return pairError(hole, spring) == 0 && world.looks.said(hole, spring, IN_FLOOD) == SURE
                && world.looks.said(hole, spring, DRY) == NOT_YET;
    }

    /** Numbers in a row, so many at the most. */
    private static final class Row {
        final int[] items;
        int count = 0;

        Row(int most) {
            items = new int[Math.max(0, most)];
        }

        boolean add(int v) {
            if (count >= items.length) {
                return false;
            }
            items[count] = v;
            count++;
            return true;
        }

        /** The number at a place; -1 beyond the row's room. */
        int get(int i) {
            return i < 0 || i >= items.length ? -1 : items[i];
        }

        void copyOf(Row other) {
            count = Math.min(other.count, items.length);
            System.arraycopy(other.items, 0, items, 0, count);
        }
    }

    /** Reads a TEXT once, byte by byte, into steps (or finds its FAULT); works steps out as often as they are asked. */
    private static final class Reader {
        /** What the NAMES of a TEXT are, in their order. */
        final int[] values = new int[4];
        /** The steps of the TEXT that was read last: what a sign joins stands ahead of it. */
        final Row steps = new Row(MOST_STEPS);
        private final int[] stack = new int[MOST_STEPS];
        private int height = 0;
        private int[] bytes = new int[0];
        private int count = 0;
        private String names = RAIN_NAMES;
        private int at = 0;
        private boolean faulty = false;

        /** How many CASES; -10 less the FAULT. */
        int casesOf(Row given, String known) {
            begin(given, known);
            for (int cases = 1; cases <= MOST_CASES; cases++) {
                sum(0);
                tests();
                steps.add(CASE_ENDS);
                if (faulty) {
                    return -10 - at;
                }
                if (at >= count) {
                    return cases;
                }
                if (cases == MOST_CASES || !take(';')) {
                    return -10 - at;
                }
            }
            return -10 - at;
        }

        private void begin(Row given, String known) {
            bytes = given.items;
            count = Math.min(given.count, given.items.length);
            names = known;
            at = 0;
            faulty = false;
            steps.count = 0;
        }

        private int next() {
            return at >= 0 && at < count ? bytes[at] : -1;
        }

        private boolean take(int sign) {
            if (faulty || next() != sign) {
                return false;
            }
            at++;
            return true;
        }

        private void tests() {
            boolean more = take('?');
            for (int i = 0; more && i < MOST_BYTES; i++) {
                sum(0);
                int sign = take('<') ? '<' : take('=') ? '=' : take('>') ? '>' : 0;
                faulty = faulty || sign == 0;
                sum(0);
                steps.add(-sign);
                steps.add(TEST_ENDS);
                more = take('&');
            }
        }

        private void sum(int open) {
            term(open);
            for (int i = 0; i < MOST_BYTES; i++) {
                int sign = take('+') ? '+' : take('-') ? '-' : 0;
                if (sign == 0) {
                    return;
                }
                term(open);
                steps.add(-sign);
            }
        }

        private void term(int open) {
            one(open);
            for (int i = 0; i < MOST_BYTES; i++) {
                int sign = take('*') ? '*' : take('/') ? '/' : 0;
                if (sign == 0) {
                    return;
                }
                one(open);
                steps.add(-sign);
            }
        }

        private void one(int open) {
            if (faulty) {
                return;
            }
            if (isDigit(next())) {
                steps.add(number());
                return;
            }
            if (open < MOST_OPEN && take('(')) {
                sum(open + 1);
                faulty = !take(')');
                return;
            }
            int name = next() < 0 ? -1 : names.indexOf((char) next());
            if (name < 0) {
                faulty = true;
                return;
            }
            at++;
            steps.add(FIRST_NAME + name);
        }

        private int number() {
            int v = 0;
            for (int i = 0; i < MOST_DIGITS && isDigit(next()); i++) {
                v = v * 10 + next() - '0';
                at++;
            }
            return v;
        }

        private static boolean isDigit(int sign) {
            return sign >= '0' && sign <= '9';
        }

        /** What a TEXT of some steps tells: the SUM of the first CASE whose TESTS all hold. */
        int toldBy(Row given) {
            height = 0;
            boolean hold = true;
            for (int i = 0; i < given.count; i++) {
                int step = given.get(i);
                if (step >= 0) {
                    push(step < FIRST_NAME ? step : valueOf(step - FIRST_NAME));
                } else if (step == TEST_ENDS) {
                    hold = pop() == 1 && hold;
                } else if (step != CASE_ENDS) {
                    int right = pop();
                    push(workOut(pop(), -step, right));
                } else if (hold) {
                    return pop();
                } else {
                    height = 0;
                    hold = true;
                }
            }
            return 0;
        }

        private int valueOf(int name) {
            return name < 0 || name >= values.length ? 0 : values[name];
        }

        private void push(int v) {
            if (height >= 0 && height < stack.length) {
                stack[height] = v;
                height++;
            }
        }

        private int pop() {
            if (height <= 0 || height > stack.length) {
                return 0;
            }
            height--;
            return stack[height];
        }

        private static int workOut(int left, int sign, int right) {
            switch (sign) {
                case '+':
                    return left + right;
                case '-':
                    return left - right;
                case '*':
                    return left * right;
                case '/':
                    return by(left, right);
                case '<':
                    return left < right ? 1 : 0;
                case '=':
                    return left == right ? 1 : 0;
                default:
                    return left > right ? 1 : 0;
            }
        }
    }

    /** A WAY below; the KINDS under it are classes under this one. */
    private static class Way {
        final int from;
        final int to;
        final int length;
        final int n;

        Way(int from, int to, int length, int n) {
            this.from = from;
            this.to = to;
            this.length = length;
            this.n = n;
        }

        int kind() {
            return 0;
        }

        int takes() {
            return length;
        }

        /** How many of some GRAINS of a COLOUR that go into it are STUCK. */
        int keeps(int grains) {
            return 0;
        }

        int runs(int x, Row trace) {
            trace.add(10);
            return x + length;
        }

        int holds(int x, Row trace) {
            trace.add(11);
            return runs(x, trace) * 2;
        }

        int spills(int x, Row trace) {
            trace.add(12);
            return holds(x, trace) - n;
        }

        int tells(int x, Row trace) {
            trace.add(13);
            return by(x, n - length);
        }

        boolean isParted() {
            return n == length;
        }
    }

    private static class Open extends Way {
        Open(int from, int to, int length, int n) {
            super(from, to, length, n);
        }

        @Override
        int kind() {
            return 1;
        }

        @Override
        int takes() {
            return super.takes() / 2 + 1;
        }

        @Override
        int runs(int x, Row trace) {
            trace.add(20);
            return super.runs(x, trace) - 1;
        }

        @Override
        int tells(int x, Row trace) {
            trace.add(21);
            int left = super.tells(x, trace);
            // PARTED is all that is answered then: what stands right of it never begins.
            return isParted() ? 0 : left + runs(1, trace);
        }
    }

    private static class Sieve extends Way {
        Sieve(int from, int to, int length, int n) {
            super(from, to, length, n);
        }

        @Override
        int kind() {
            return 2;
        }

        @Override
        int takes() {
            return super.takes() * 2;
        }

        @Override
        int keeps(int grains) {
            return by(grains, n);
        }

        @Override
        int holds(int x, Row trace) {
            trace.add(30);
            return super.holds(x, trace) ^ n;
        }
    }

    private static final class Overflow extends Open {
        Overflow(int from, int to, int length, int n) {
            super(from, to, length, n);
        }

        @Override
        int kind() {
            return 3;
        }

        @Override
        int runs(int x, Row trace) {
            trace.add(40);
            return super.runs(x + n, trace);
        }

        @Override
        int spills(int x, Row trace) {
            trace.add(41);
            return super.spills(x, trace) * 3;
        }
    }

    private static final class Pool extends Way {
        Pool(int from, int to, int length, int n) {
            super(from, to, length, n);
        }

        @Override
        int kind() {
            return 4;
        }

        /** What comes out of so much that is HELD: one N-th, and 1 if N doesn't divide it. */
        int lets(int amount) {
            int part = by(amount, n);
            return part * n == amount ? part : part + 1;
        }

        @Override
        int holds(int x, Row trace) {
            trace.add(50);
            return super.holds(x, trace) + n;
        }

        @Override
        int spills(int x, Row trace) {
            trace.add(51);
            return 0 - super.spills(x, trace);
        }
    }

    private static final class Blind extends Sieve {
        Blind(int from, int to, int length, int n) {
            super(from, to, length, n);
        }

        @Override
        int kind() {
            return 5;
        }

        @Override
        int tells(int x, Row trace) {
            trace.add(60);
            int left = runs(x, trace);
            return left - super.tells(x, trace);
        }
    }

    /** All that an IMAGE keeps. */
    private static final class World {
        int joints = 0;
        int wayCount = 0;
        /** TOWNS, as bits of their numbers. */
        int towns = 0;
        final int[] sorts = new int[MOST_JOINTS];
        final int[] easts = new int[MOST_JOINTS];
        final int[] heights = new int[MOST_JOINTS];
        final Way[] ways = new Way[MOST_WAYS];
        final Water water = new Water();
        final Looks looks = new Looks();
        final Row tape = new Row(MOST_BYTES);
        /** Steps of TEXTS, none without one. */
        final Row rainText = new Row(MOST_STEPS);
        final Row seenText = new Row(MOST_STEPS);
        final Row waits = new Row(MOST_WAITING);

        World() {
            // A WAY that is never walked stands in each free place, so that none is ever null.
            Way free = new Way(0, 0, 1, 1);
            for (int w = 0; w < MOST_WAYS; w++) {
                ways[w] = free;
            }
        }

        void copyOf(World other) {
            joints = other.joints;
            wayCount = other.wayCount;
            towns = other.towns;
            System.arraycopy(other.sorts, 0, sorts, 0, MOST_JOINTS);
            System.arraycopy(other.easts, 0, easts, 0, MOST_JOINTS);
            System.arraycopy(other.heights, 0, heights, 0, MOST_JOINTS);
            for (int w = 0; w < MOST_WAYS; w++) {
                ways[w] = other.ways[w];
            }
            water.copyOf(other.water);
            looks.copyOf(other.looks);
            tape.copyOf(other.tape);
            rainText.copyOf(other.rainText);
            seenText.copyOf(other.seenText);
            waits.copyOf(other.waits);
        }

        boolean isJoint(int joint) {
            return joint >= 0 && joint < joints;
        }

        boolean isWay(int way) {
            return way >= 0 && way < wayCount;
        }

        boolean isOf(int joint, int sort) {
            return isJoint(joint) && sorts[joint] == sort;
        }

        /** Whether what is there comes OUT. */
        boolean isOutlet(int joint) {
            return isOf(joint, SPRING) || isOf(joint, SEA);
        }

        int bitsOf(int sort) {
            int bits = 0;
            for (int j = 0; j < joints; j++) {
                if (sorts[j] == sort) {
                    bits |= 1 << j;
                }
            }
            return bits;
        }

        int addJoint(int sort, int east, int height) {
            if (joints >= MOST_JOINTS) {
                return -1;
            }
            sorts[joints] = sort;
            easts[joints] = east;
            heights[joints] = height;
            joints++;
            return joints - 1;
        }

        int addWay(Way way) {
            if (wayCount >= MOST_WAYS) {
                return -1;
            }
            ways[wayCount] = way;
            wayCount++;
            return wayCount - 1;
        }

        int putIn(int hole, int colour, int grains) {
            water.at[hole * THINGS + 1 + colour] += grains;
            water.sums[colour * SUMS + PUT_IN] += grains;
            return looks.addPut(hole, colour, grains, water.now);
        }

        /** So much of a thing as is at JOINTS, in WAYS and HELD. */
        int allBelow(int thing) {
            int sum = 0;
            for (int j = 0; j < joints; j++) {
                sum += water.at[j * THINGS + thing];
            }
            for (int w = 0; w < wayCount; w++) {
                sum += water.inWay(w, thing);
            }
            return sum;
        }

        int rainOn(int hole, Water when, Reader reader) {
            if (rainText.count == 0) {
                return PLAIN_RAIN;
            }
            reader.values[0] = when.now % DAY;
            reader.values[1] = when.now / DAY;
            reader.values[2] = hole;
            reader.values[3] = when.inFlood ? 1 : 0;
            return held(reader.toldBy(rainText), 0, MOST_RAIN);
        }

        int seenAt(int spring, int colour, int sort, Reader reader) {
            if (seenText.count == 0) {
                return PLAIN_SEEN;
            }
            reader.values[0] = water.lastOut[spring];
            reader.values[1] = colour;
            reader.values[2] = sort;
            return held(reader.toldBy(seenText), 1, MOST_GRAINS);
        }

        /** Whether JOINTS p and q are on unlike sides of the line from a to b, neither on it. */
        boolean parts(int a, int b, int p, int q) {
            int one = side(a, b, p);
            int other = side(a, b, q);
            return one < 0 && other > 0 || one > 0 && other < 0;
        }

        private int side(int a, int b, int p) {
            return (easts[b] - easts[a]) * (heights[p] - heights[a])
                    - (heights[b] - heights[a]) * (easts[p] - easts[a]);
        }
    }

    /** WATER and GRAINS, where they are and were; a second one of these tries HOURS that have not come. */
    private static final class Water {
        int now = 0;
        boolean inFlood = false;
        int lostWater = 0;
        final int[] fades = new int[COLOURS];
        final int[] sums = new int[COLOURS * SUMS];
        final int[] at = new int[MOST_JOINTS * THINGS];
        /** Of each WAY what went into it, by the HOUR's rest by the HOURS that it TAKES. */
        final int[] inside = new int[MOST_WAYS * MOST_TAKEN * THINGS];
        final int[] pooled = new int[MOST_WAYS * THINGS];
        final int[] lastOut = new int[MOST_JOINTS];
        final int[] everOut = new int[MOST_JOINTS];
        /** GRAINS that came OUT, by the HOUR's rest by 24. */
        final int[] outs = new int[MOST_JOINTS * COLOURS * DAY];
        private final int[] gets = new int[MOST_WAYS];

        void copyOf(Water other) {
            now = other.now;
            inFlood = other.inFlood;
            lostWater = other.lostWater;
            System.arraycopy(other.fades, 0, fades, 0, fades.length);
            System.arraycopy(other.sums, 0, sums, 0, sums.length);
            System.arraycopy(other.at, 0, at, 0, at.length);
            System.arraycopy(other.inside, 0, inside, 0, inside.length);
            System.arraycopy(other.pooled, 0, pooled, 0, pooled.length);
            System.arraycopy(other.lastOut, 0, lastOut, 0, lastOut.length);
            System.arraycopy(other.everOut, 0, everOut, 0, everOut.length);
            System.arraycopy(other.outs, 0, outs, 0, outs.length);
        }

        void startSpill(Water other, int hole, int grains) {
            copyOf(other);
            int thing = 1 + SPILT;
            for (int i = thing; i < at.length; i += THINGS) {
                at[i] = 0;
            }
            for (int i = thing; i < inside.length; i += THINGS) {
                inside[i] = 0;
            }
            for (int i = thing; i < pooled.length; i += THINGS) {
                pooled[i] = 0;
            }
            at[hole * THINGS + thing] = grains;
        }

        int inWay(int way, int thing) {
            int sum = pooled[way * THINGS + thing];
            for (int i = 0; i < MOST_TAKEN; i++) {
                sum += inside[(way * MOST_TAKEN + i) * THINGS + thing];
            }
            return sum;
        }

        int cameOut(int joint, int colour, int ago) {
            int hour = now - ago;
            return hour < 0 ? 0 : outs[(joint * COLOURS + colour) * DAY + hour % DAY];
        }

        void passHour(World world, Reader reader) {
            for (int w = 0; w < world.wayCount; w++) {
                leave(w, world.ways[w]);
            }
            for (int j = 0; j < world.joints; j++) {
                if (world.isOf(j, HOLE)) {
                    at[j * THINGS] += world.rainOn(j, this, reader);
                }
            }
            for (int j = 0; j < world.joints; j++) {
                if (world.isOutlet(j)) {
                    comeOut(j, world.isOf(j, SPRING) ? OUT_SPRING : OUT_SEA);
                } else if (at[j * THINGS] > 0) {
                    sendOff(j, world);
                }
            }
            now++;
        }

        private int slotNow(int w, int takes) {
            int rest = takes < 1 || takes > MOST_TAKEN ? 0 : now % takes;
            return (w * MOST_TAKEN + rest) * THINGS;
        }

        private void leave(int w, Way way) {
            int takes = way.takes();
            int slot = slotNow(w, takes);
            for (int thing = 0; thing < THINGS; thing++) {
                int amount = inside[slot + thing];
                inside[slot + thing] = 0;
                if (thing > 0) {
                    amount -= fadeAway(thing - 1, amount, takes);
                }
                if (way instanceof Pool pool) {
                    int all = pooled[w * THINGS + thing] + amount;
                    amount = pool.lets(all);
                    pooled[w * THINGS + thing] = all - amount;
                }
                at[way.to * THINGS + thing] += amount;
            }
        }

        private int fadeAway(int colour, int amount, int takes) {
            int faded = amount * Math.min(100, fades[colour] * takes) / 100;
            sums[colour * SUMS + FADED] += faded;
            return faded;
        }

        private void comeOut(int joint, int where) {
            lastOut[joint] = at[joint * THINGS];
            everOut[joint] += lastOut[joint];
            at[joint * THINGS] = 0;
            for (int colour = 0; colour < COLOURS; colour++) {
                int grains = at[joint * THINGS + 1 + colour];
                at[joint * THINGS + 1 + colour] = 0;
                outs[(joint * COLOURS + colour) * DAY + now % DAY] = grains;
                sums[colour * SUMS + where] += grains;
            }
        }

        private void sendOff(int joint, World world) {
            int all = at[joint * THINGS];
            int stays = shareOut(joint, all, world);
            int most = -1;
            for (int w = 0; w < world.wayCount; w++) {
                if (world.ways[w].from == joint) {
                    enter(w, world.ways[w], 0, gets[w]);
                    most = most < 0 || gets[w] > gets[most] ? w : most;
                }
            }
            at[joint * THINGS] = stays;
            for (int thing = 1; thing < THINGS && most >= 0; thing++) {
                if (at[joint * THINGS + thing] > 0) {
                    sendGrains(joint, thing, all, most, world);
                }
            }
        }

        /** The WAY with the most WATER comes last: all that is left then goes with it, unless WATER stays. */
        private void sendGrains(int joint, int thing, int all, int most, World world) {
            int grains = at[joint * THINGS + thing];
            int left = grains;
            for (int w = 0; w < world.wayCount; w++) {
                if (world.ways[w].from == joint && w != most) {
                    int goes = part(grains, gets[w], all);
                    enter(w, world.ways[w], thing, goes);
                    left -= goes;
                }
            }
            int rest = at[joint * THINGS] > 0 ? part(grains, gets[most], all) : left;
            enter(most, world.ways[most], thing, rest);
            at[joint * THINGS + thing] = left - rest;
        }

        /** What each WAY from a JOINT gets of its WATER; answers what stays. */
        private int shareOut(int joint, int all, World world) {
            int rest = all;
            int others = 0;
            for (int w = 0; w < world.wayCount; w++) {
                Way way = world.ways[w];
                if (way.from == joint && way instanceof Overflow) {
                    gets[w] = Math.max(0, rest - way.n);
                    rest -= gets[w];
                } else if (way.from == joint) {
                    others++;
                }
            }
            if (others == 0) {
                return rest;
            }
            int each = by(rest, others);
            int more = rest - each * others;
            for (int w = 0; w < world.wayCount; w++) {
                Way way = world.ways[w];
                if (way.from == joint && !(way instanceof Overflow)) {
                    gets[w] = more > 0 ? each + 1 : each;
                    more--;
                }
            }
            return 0;
        }

        /** GRAINS times WATER can be above what an int holds. */
        private static int part(int grains, int water, int all) {
            return all <= 0 ? 0 : (int) ((long) grains * water / all);
        }

        private void enter(int w, Way way, int thing, int amount) {
            int goes = amount;
            if (thing > 0) {
                int stuck = way.keeps(amount);
                sums[(thing - 1) * SUMS + STUCK] += stuck;
                goes -= stuck;
            }
            if (!(way instanceof Blind)) {
                inside[slotNow(w, way.takes()) + thing] += goes;
            } else if (thing > 0) {
                sums[(thing - 1) * SUMS + LOST] += goes;
            } else {
                lostWater += goes;
            }
        }
    }

    /** PUTS, LOOKS, and what they SAY. */
    private static final class Looks {
        int putCount = 0;
        int lookCount = 0;
        /** HOLE, COLOUR, GRAINS, HOUR of each. */
        final int[] puts = new int[MOST_PUTS * PUT_PARTS];
        /** SPRING, COLOUR, HOUR, n, SAW, FLOOD, GRAINS, and the HOLES in which the COLOUR was put ahead, of each. */
        final int[] looks = new int[MOST_LOOKS * LOOK_PARTS];
        /** A NIGHT: how many pairs, HOLES, SPRINGS. */
        final int[] plan = new int[3];
        private final int[] unsaid = new int[MOST_JOINTS];
        private final int[] lets = new int[MOST_SIDE];
        private final int[] covers = new int[1 << MOST_SIDE];

        void copyOf(Looks other) {
            putCount = other.putCount;
            lookCount = other.lookCount;
            System.arraycopy(other.puts, 0, puts, 0, puts.length);
            System.arraycopy(other.looks, 0, looks, 0, looks.length);
        }

        int putPart(int put, int what) {
            return puts[put * PUT_PARTS + what];
        }

        int lookPart(int look, int what) {
            return looks[look * LOOK_PARTS + what];
        }

        int addPut(int hole, int colour, int grains, int hour) {
            if (putCount >= MOST_PUTS) {
                return -1;
            }
            int start = putCount * PUT_PARTS;
            puts[start] = hole;
            puts[start + 1] = colour;
            puts[start + 2] = grains;
            puts[start + 3] = hour;
            putCount++;
            return putCount - 1;
        }

        void addLook(int spring, int colour, int n, int grains, boolean saw, Water water) {
            if (lookCount >= MOST_LOOKS) {
                return;
            }
            int start = lookCount * LOOK_PARTS;
            looks[start] = spring;
            looks[start + 1] = colour;
            looks[start + 2] = water.now;
            looks[start + 3] = n;
            looks[start + 4] = saw ? 1 : 0;
            looks[start + 5] = water.inFlood ? 1 : 0;
            looks[start + 6] = grains;
            looks[start + 7] = holesOf(colour);
            lookCount++;
        }

        private int holesOf(int colour) {
            int bits = 0;
            for (int p = 0; p < putCount; p++) {
                if (putPart(p, 1) == colour) {
                    bits |= 1 << putPart(p, 0);
                }
            }
            return bits;
        }

        private boolean saw(int look) {
            return lookPart(look, 4) == 1;
        }

        private boolean isAbout(int look, int hole, int spring) {
            return lookPart(look, 0) == spring && bit(lookPart(look, 7), hole) == 1;
        }

        int howManySaw() {
            int many = 0;
            for (int l = 0; l < lookCount; l++) {
                many += lookPart(l, 4);
            }
            return many;
        }

        int said(int hole, int spring, int water) {
            int said = NOTHING;
            for (int l = 0; l < lookCount; l++) {
                boolean counts = water == ALL_WATER || lookPart(l, 5) == water - DRY;
                if (counts && isAbout(l, hole, spring)) {
                    boolean alone = lookPart(l, 7) == 1 << hole;
                    said = Math.max(said, !saw(l) ? NOT_YET : alone ? SURE : MAY);
                }
            }
            return said;
        }

        int inVain(int hole, int spring) {
            int many = 0;
            for (int l = 0; l < lookCount; l++) {
                if (isAbout(l, hole, spring) && !saw(l)) {
                    many++;
                }
            }
            return many;
        }

        /** The one PUT of a COLOUR; -1 if it was not put just once. */
        int onlyPut(int colour) {
            int only = -1;
            for (int p = 0; p < putCount; p++) {
                if (putPart(p, 1) == colour) {
                    if (only >= 0) {
                        return -1;
                    }
                    only = p;
                }
            }
            return only;
        }

        int firstSaw(int spring, int colour) {
            for (int l = 0; l < lookCount; l++) {
                if (lookPart(l, 0) == spring && lookPart(l, 1) == colour && saw(l)) {
                    return l;
                }
            }
            return -1;
        }

        /** The latest LOOK ahead of another that SAW nothing, though the COLOUR had been put; -1 without one. */
        int latestVain(int spring, int hole, int colour, int ahead) {
            int latest = -1;
            for (int l = 0; l < lookCount && l < ahead; l++) {
                if (isAbout(l, hole, spring) && lookPart(l, 1) == colour && !saw(l)) {
                    latest = l;
                }
            }
            return latest;
        }

        int seenInBottles(int colour) {
            int sum = 0;
            for (int l = 0; l < lookCount; l++) {
                if (isFullBottle(l, colour) && !wasSeenAhead(l, colour)) {
                    sum += lookPart(l, 6);
                }
            }
            return sum;
        }

        private boolean isFullBottle(int look, int colour) {
            return lookPart(look, 1) == colour && lookPart(look, 3) == 0 && saw(look);
        }

        private boolean wasSeenAhead(int look, int colour) {
            for (int l = 0; l < look; l++) {
                if (isFullBottle(l, colour) && lookPart(l, 0) == lookPart(look, 0)
                        && lookPart(l, 2) == lookPart(look, 2)) {
                    return true;
                }
            }
            return false;
        }

        int fewestRooms(int holes, int springs) {
            int sure = findSides(holes, springs);
            for (int set = 0; set < covers.length; set++) {
                covers[set] = coverOf(set, Integer.bitCount(holes)) & sure;
            }
            int enough = Math.min(Integer.bitCount(holes), Integer.bitCount(springs));
            for (int rooms = 0; rooms < enough; rooms++) {
                if (canCover(sure, rooms)) {
                    return rooms;
                }
            }
            // One ROOM for each HOLE, or for each SPRING, always does.
            return enough;
        }

        /** Pairs of which SURE is SAID, as bits: 5 times the HOLE's place among these, and the SPRING's. */
        private int findSides(int holes, int springs) {
            int sure = 0;
            int row = 0;
            for (int h = 0; h < MOST_JOINTS && row < MOST_SIDE; h++) {
                if (bit(holes, h) == 1) {
                    int column = 0;
                    lets[row] = 0;
                    for (int s = 0; s < MOST_JOINTS && column < MOST_SIDE; s++) {
                        if (bit(springs, s) == 1) {
                            int said = said(h, s, ALL_WATER);
                            lets[row] |= said == NOT_YET ? 0 : 1 << column;
                            sure |= said == SURE ? 1 << (row * MOST_SIDE + column) : 0;
                            column++;
                        }
                    }
                    row++;
                }
            }
            return sure;
        }

        /** Pairs in the greatest ROOM with some HOLES; none if one more HOLE could be in it, too. */
        private int coverOf(int set, int rows) {
            int let = (1 << MOST_SIDE) - 1;
            for (int row = 0; row < rows && row < MOST_SIDE; row++) {
                let &= bit(set, row) == 1 ? lets[row] : let;
            }
            int pairs = 0;
            for (int row = 0; row < rows && row < MOST_SIDE; row++) {
                if (bit(set, row) == 1) {
                    pairs |= let << (row * MOST_SIDE);
                } else if ((let & ~lets[row]) == 0) {
                    return 0;
                }
            }
            return pairs;
        }

        private boolean canCover(int left, int rooms) {
            if (left == 0 || rooms <= 0) {
                return left == 0;
            }
            int pair = left & -left;
            for (int set = 0; set < covers.length; set++) {
                if ((covers[set] & pair) != 0 && canCover(left & ~covers[set], rooms - 1)) {
                    return true;
                }
            }
            return false;
        }

        /** HOLES of which SURE or MAY is SAID at one of some SPRINGS. */
        int holesKnownAt(int springs) {
            int bits = 0;
            for (int l = 0; l < lookCount; l++) {
                if (bit(springs, lookPart(l, 0)) == 1 && saw(l)) {
                    bits |= lookPart(l, 7);
                }
            }
            return bits;
        }

        void planNight(int holes, int springs, int holeCount, int springCount) {
            for (int s = 0; s < MOST_JOINTS; s++) {
                unsaid[s] = bit(springs, s) == 1 ? holes & ~holesLookedFor(s) : 0;
            }
            plan[0] = -1;
            int sets = 1 << Integer.bitCount(holes);
            int set = 0;
            for (int i = 1; i < sets; i++) {
                // The next greater one of all that can be made of these bits.
                set = (set - holes) & holes;
                if (Integer.bitCount(set) == holeCount) {
                    planSprings(set, springs, springCount);
                }
            }
        }

        /** HOLES of which anything is SAID at a SPRING. */
        private int holesLookedFor(int spring) {
            int bits = 0;
            for (int l = 0; l < lookCount; l++) {
                if (lookPart(l, 0) == spring) {
                    bits |= lookPart(l, 7);
                }
            }
            return bits;
        }

        /** SPRINGS with the most pairs first, of several the least: that makes the most pairs with the least bits. */
        private void planSprings(int set, int springs, int springCount) {
            int pairs = 0;
            int chosen = 0;
            int left = springCount;
            for (int many = Integer.bitCount(set); many >= 0; many--) {
                for (int s = 0; s < MOST_JOINTS && left > 0; s++) {
                    if (bit(springs, s) == 1 && Integer.bitCount(set & unsaid[s]) == many) {
                        chosen |= 1 << s;
                        pairs += many;
                        left--;
                    }
                }
            }
            if (pairs > plan[0]) {
                plan[0] = pairs;
                plan[1] = set;
                plan[2] = chosen;
            }
        }
    }
}
