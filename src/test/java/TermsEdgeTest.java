/** The boundary cases that the sentences of "Terms" name: the last that is still so, and the first that isn't. */
public final class TermsEdgeTest {
    private static final int BEYOND = Due.BEYOND;
    private static final int NONE = Due.NONE;
    private static final int STATE = Due.STATE;
    private static final int FULL = Due.FULL;
    private static final int KIND = Due.KIND;
    private static final int PARTED = Due.PARTED;
    private static final int MIN = Integer.MIN_VALUE;
    private static final int MAX = Integer.MAX_VALUE;
    private static final int HOLE = 0;
    private static final int ROOM = 1;
    private static final int SPRING = 2;
    private static final int SEA = 3;
    private static final Due DUE = new Due();

    private static void of(String sentence) {
        DUE.of(sentence);
    }

    private static void is(String call, long got, long want) {
        DUE.is(call, got, want);
    }

    public static void main(String[] args) {
        errors();
        hoursAndJoints();
        waysGoDown();
        waysAre();
        hoursTaken();
        nothingAtFirst();
        faded();
        pools();
        rainAndOut();
        overflows();
        otherWays();
        grainsGo();
        sieves();
        tapes();
        casesOfTexts();
        sumsOfTexts();
        faults();
        rainTexts();
        seenTexts();
        floodPutsLooks();
        looksSee();
        looksSay();
        lastOfSixty();
        fewestRooms();
        nights();
        voices();
        sheets();
        DUE.end();
    }

    /** A HOLE 0 above a ROOM 1 above a SPRING 2 above a SEA 3. */
    private static HoleWater ladder() {
        HoleWater x = new HoleWater();
        x.joint(HOLE, 10, 90);
        x.joint(ROOM, 20, 50);
        x.joint(SPRING, 30, 10);
        x.joint(SEA, 40, 0);
        return x;
    }

    /** The same, with so much RAIN in each HOUR. */
    private static HoleWater ladder(int rain) {
        HoleWater x = ladder();
        Due.text(x, 0, String.valueOf(rain));
        return x;
    }

    private static void late(HoleWater x, int hour) {
        while (x.count(0) < hour) {
            x.hours(Math.min(60, hour - x.count(0)));
        }
    }

    private static void errors() {
        of("Terms: ERRORS are LOW - 1 .. LOW - 6");
        HoleWater x = ladder();
        is("BEYOND", x.jointIs(4, 0), -1000001);
        is("NONE", x.restore(), -1000002);
        is("STATE", x.way(0, 101, 1, 1), -1000003);
        for (int i = 0; i < 24; i++) {
            x.tell(i);
        }
        is("FULL", x.tell(24), -1000004);
        is("KIND", x.rain(1), -1000005);
        x.way(0, 1, 2, 2);
        is("PARTED", x.voice(0, 3, 1), -1000006);
        of("Terms: quotients are cut");
        x.way(0, 1, 1, 3);
        x.way(0, 1, 3, 1);
        is("-7 by 2", x.voice(1, 3, -7), -3);
        is("7 by -2", x.voice(2, 3, 7), -3);
        is("-7 by -2", x.voice(2, 3, -7), 3);
        is("-1 by 2", x.voice(1, 3, -1), 0);
    }

    private static void hoursAndJoints() {
        of("Terms 1: HOURS are 0 .. 999");
        HoleWater x = new HoleWater();
        late(x, 998);
        is("hours(2) at 998", x.hours(2), STATE);
        is("NOW", x.count(0), 998);
        is("hours(1) at 998", x.hours(1), 999);
        is("hours(1) at 999", x.hours(1), STATE);
        is("NOW", x.count(0), 999);
        of("Terms 1: NOW is 0 at first");
        is("count(0)", new HoleWater().count(0), 0);
        of("Terms 1: JOINTS, at most 16");
        HoleWater y = new HoleWater();
        for (int j = 0; j < 16; j++) {
            is("joint " + j, y.joint(HOLE, j, j), j);
        }
        is("joint 16", y.joint(HOLE, 16, 16), FULL);
        is("count(1)", y.count(1), 16);
        is("jointIs(15, 1)", y.jointIs(15, 1), 15);
        is("jointIs(16, 1)", y.jointIs(16, 1), BEYOND);
        of("Terms 1: sorts 0 HOLE, 1 ROOM, 2 SPRING, 3 SEA");
        HoleWater s = new HoleWater();
        is("joint(-1, ..)", s.joint(-1, 1, 1), BEYOND);
        for (int sort = 0; sort < 4; sort++) {
            is("joint(" + sort + ", ..)", s.joint(sort, 1, 1), sort);
            is("its sort", s.jointIs(sort, 0), sort);
        }
        is("joint(4, ..)", s.joint(4, 1, 1), BEYOND);
        of("Terms 1: an EAST of 0 .. 99");
        HoleWater e = new HoleWater();
        is("joint(0, -1, 5)", e.joint(0, -1, 5), BEYOND);
        is("joint(0, 0, 5)", e.joint(0, 0, 5), 0);
        is("joint(0, 99, 5)", e.joint(0, 99, 5), 1);
        is("joint(0, 100, 5)", e.joint(0, 100, 5), BEYOND);
        is("the least", e.jointIs(0, 1), 0);
        is("the greatest", e.jointIs(1, 1), 99);
        of("Terms 1: a HEIGHT of 0 .. 99");
        HoleWater h = new HoleWater();
        is("joint(0, 5, -1)", h.joint(0, 5, -1), BEYOND);
        is("joint(0, 5, 0)", h.joint(0, 5, 0), 0);
        is("joint(0, 5, 99)", h.joint(0, 5, 99), 1);
        is("joint(0, 5, 100)", h.joint(0, 5, 100), BEYOND);
        is("the least", h.jointIs(0, 2), 0);
        is("the greatest", h.jointIs(1, 2), 99);
    }

    private static void waysGoDown() {
        of("Terms 1: WAYS go from a HOLE or ROOM to a ROOM, SPRING or SEA");
        for (int from = 0; from < 4; from++) {
            for (int to = 0; to < 4; to++) {
                HoleWater x = new HoleWater();
                x.joint(from, 1, 50);
                x.joint(to, 1, 40);
                boolean taken = from <= ROOM && to >= ROOM;
                is("from sort " + from + " to sort " + to, x.way(0, 1, 1, 1), taken ? 0 : KIND);
                is("how many", x.count(2), taken ? 1 : 0);
            }
        }
        of("Terms 1: of a lesser HEIGHT");
        int[][] heights = {{1, 0}, {0, 0}, {0, 1}, {99, 98}, {99, 99}, {98, 99}, {50, 49}, {50, 50}, {50, 51}, {99, 0}, {0, 99}};
        for (int[] h : heights) {
            HoleWater x = new HoleWater();
            x.joint(ROOM, 1, h[0]);
            x.joint(ROOM, 1, h[1]);
            is("from " + h[0] + " to " + h[1], x.way(0, 1, 1, 1), h[1] < h[0] ? 0 : STATE);
        }
    }

    private static void waysAre() {
        of("Terms 1: WAYS, at most 24");
        HoleWater x = ladder();
        for (int w = 0; w < 24; w++) {
            is("way " + w, x.way(0, 1, 1, 1 + w), w);
        }
        is("way 24", x.way(0, 1, 1, 1), FULL);
        is("count(2)", x.count(2), 24);
        is("wayIs(23, 4)", x.wayIs(23, 4), 24);
        of("Terms 1: KINDS 0 .. 5");
        HoleWater k = ladder();
        is("kind -1", k.way(-1, 1, 1, 1), BEYOND);
        for (int kind = 0; kind < 6; kind++) {
            is("kind " + kind, k.way(kind, 1, 1, 1), kind);
            is("wayIs(.., 0)", k.wayIs(kind, 0), kind);
        }
        is("kind 6", k.way(6, 1, 1, 1), BEYOND);
        of("Terms 1: LONG (1 .. 20)");
        HoleWater l = ladder();
        is("LONG 0", l.way(0, 1, 0, 1), BEYOND);
        is("LONG 1", l.way(0, 1, 1, 1), 0);
        is("LONG 20", l.way(0, 1, 20, 1), 1);
        is("LONG 21", l.way(0, 1, 21, 1), BEYOND);
        is("wayIs(0, 3)", l.wayIs(0, 3), 1);
        is("wayIs(1, 3)", l.wayIs(1, 3), 20);
        of("Terms 1: N (1 .. 99)");
        HoleWater n = ladder();
        is("N 0", n.way(0, 1, 1, 0), BEYOND);
        is("N 1", n.way(0, 1, 1, 1), 0);
        is("N 99", n.way(0, 1, 1, 99), 1);
        is("N 100", n.way(0, 1, 1, 100), BEYOND);
        is("wayIs(0, 4)", n.wayIs(0, 4), 1);
        is("wayIs(1, 4)", n.wayIs(1, 4), 99);
        of("Terms 1: KINDS under KINDS");
        int[][] above = {{0}, {1, 0}, {2, 0}, {3, 1, 0}, {4, 0}, {5, 2, 0}};
        for (int kind = 0; kind < 6; kind++) {
            for (int as = 0; as < 6; as++) {
                boolean under = false;
                for (int up : above[kind]) {
                    under |= up == as;
                }
                is("as(" + kind + ", " + as + ")", k.as(kind, as) == KIND ? 0 : 1, under ? 1 : 0);
            }
        }
    }

    /** HOURS till a bucket that goes in comes OUT, by looking; -1 if none does in 60. */
    private static int passes(int kind, int length) {
        HoleWater x = ladder();
        x.way(kind, 2, length, 1);
        for (int hour = 0; hour < 60; hour++) {
            x.hours(1);
            if (x.jointIs(2, 5) > 0) {
                return hour;
            }
        }
        return -1;
    }

    private static void hoursTaken() {
        String[] sentences = {"a WAY takes LONG", "an OPEN half of what a WAY would, and 1", "a SIEVE twice what a WAY would",
            "an OVERFLOW as an OPEN", "a POOL as a WAY", "a BLIND one as a SIEVE"};
        for (int kind = 0; kind < 6; kind++) {
            of("Terms 1: " + sentences[kind]);
            for (int length = 1; length <= 20; length++) {
                int due = kind == 0 || kind == 4 ? length : kind == 1 || kind == 3 ? length / 2 + 1 : length * 2;
                HoleWater x = ladder();
                x.way(kind, 1, length, 7);
                is("LONG " + length, x.wayIs(0, 5), due);
                is("as a WAY", x.as(0, 0), due);
                is("what goes in comes out so many HOURS later", passes(kind, length), kind == 5 ? -1 : due);
            }
        }
        of("Terms 1: an OPEN of LONG 1, 2, 3, 20");
        HoleWater x = ladder();
        x.way(1, 1, 1, 7);
        x.way(1, 1, 2, 7);
        x.way(1, 1, 3, 7);
        x.way(1, 1, 20, 7);
        is("LONG 1", x.wayIs(0, 5), 1);
        is("LONG 2", x.wayIs(1, 5), 2);
        is("LONG 3", x.wayIs(2, 5), 2);
        is("LONG 20", x.wayIs(3, 5), 11);
    }

    private static void nothingAtFirst() {
        of("Terms 1: COLOURS 0 .. 3");
        HoleWater x = ladder();
        is("put(0, -1, 1)", x.put(0, -1, 1), BEYOND);
        for (int colour = 0; colour < 4; colour++) {
            is("put(0, " + colour + ", ..)", x.put(0, colour, 7 + colour), colour);
            is("grains(0, " + colour + ")", x.grains(0, colour), 7 + colour);
        }
        is("put(0, 4, 1)", x.put(0, 4, 1), BEYOND);
        of("Terms 1: nothing is at JOINTS, in WAYS, HELD at first");
        HoleWater y = ladder();
        for (int kind = 0; kind < 6; kind++) {
            y.way(kind, 1, 20, 1);
            is("wayIs(" + kind + ", 6)", y.wayIs(kind, 6), 0);
        }
        for (int j = 0; j < 4; j++) {
            for (int what = 3; what < 7; what++) {
                is("jointIs(" + j + ", " + what + ")", y.jointIs(j, what), 0);
            }
            for (int colour = 0; colour < 4; colour++) {
                is("grains(" + j + ", " + colour + ")", y.grains(j, colour), 0);
            }
        }
        for (int colour = 0; colour < 4; colour++) {
            for (int what = 0; what < 7; what++) {
                is("stuff(" + colour + ", " + what + ")", y.stuff(colour, what), 0);
            }
        }
        is("count(10)", y.count(10), 0);
        is("count(11)", y.count(11), 0);
    }

    /** How many of some GRAINS of COLOUR 1 are FADED on a WAY, with a FADE. */
    private static int fadedOf(int grains, int kind, int length, int fade) {
        HoleWater x = ladder();
        x.way(kind, 2, length, 99);
        x.fade(1, fade);
        x.put(0, 1, grains);
        x.hours(41);
        return x.stuff(1, 3);
    }

    private static void faded() {
        of("Terms 2 (1): hundredths as FADE (0 .. 99; 0 at first) times HOURS that it TAKES, 100 at most");
        is("FADE 0", fadedOf(100, 0, 20, 0), 0);
        is("FADE 1, 1 HOUR, of 100", fadedOf(100, 0, 1, 1), 1);
        is("FADE 1, 1 HOUR, of 99: cut", fadedOf(99, 0, 1, 1), 0);
        is("FADE 1, 1 HOUR, of 199: cut", fadedOf(199, 0, 1, 1), 1);
        is("FADE 99, 1 HOUR", fadedOf(100, 0, 1, 99), 99);
        is("99: 11 times 9", fadedOf(100, 0, 11, 9), 99);
        is("100: 5 times 20", fadedOf(100, 0, 5, 20), 100);
        is("100 at most: 3 times 34", fadedOf(100, 0, 3, 34), 100);
        is("99: 3 times 33", fadedOf(100, 0, 3, 33), 99);
        is("100 at most: 20 times 99", fadedOf(9999, 0, 20, 99), 9999);
        is("an OPEN of LONG 20: 11 times 9", fadedOf(100, 1, 20, 9), 99);
        is("a SIEVE of LONG 20: 40 times 2", fadedOf(50, 2, 20, 2), 40);
        is("a SIEVE of LONG 20: 40 times 3", fadedOf(50, 2, 20, 3), 50);
        is("a BLIND one: nothing comes out", fadedOf(98, 5, 20, 99), 0);
        of("Terms 2 (1): FADE as it is when they come out");
        HoleWater x = ladder();
        x.way(0, 2, 2, 1);
        x.put(0, 0, 100);
        x.hours(2);
        x.fade(0, 10);
        x.hours(1);
        is("20 of 100", x.stuff(0, 3), 20);
        is("the rest comes OUT", x.out(2, 0, 1), 80);
        of("Terms 2 (1): FADE is one of each COLOUR");
        HoleWater y = ladder();
        y.way(0, 2, 1, 1);
        for (int colour = 0; colour < 4; colour++) {
            y.fade(colour, 10 * colour);
            y.put(0, colour, 100);
        }
        y.hours(2);
        for (int colour = 0; colour < 4; colour++) {
            is("stuff(" + colour + ", 3)", y.stuff(colour, 3), 10 * colour);
            is("out(2, " + colour + ", 1)", y.out(2, colour, 1), 100 - 10 * colour);
        }
        is("WATER doesn't fade", y.jointIs(2, 4), 10);
    }

    /** A POOL of a N with so much WATER HELD and so many GRAINS, and none to come; the next HOUR lets the first out. */
    private static HoleWater pool(int n, int water, int grains) {
        HoleWater x = ladder(water);
        x.way(4, 2, 1, n);
        if (grains > 0) {
            x.put(0, 0, grains);
        }
        x.hours(1);
        Due.text(x, 0, "0");
        return x;
    }

    private static void pools() {
        of("Terms 2 (1): one N-th of what is HELD, and 1 if N doesn't divide it");
        int[][] cases = {{1, 10, 10}, {2, 10, 5}, {2, 11, 6}, {2, 1, 1}, {3, 9, 3}, {3, 10, 4}, {3, 11, 4}, {3, 12, 4}, {99, 1, 1},
            {99, 98, 1}, {99, 99, 1}, {99, 100, 2}, {99, 198, 2}, {99, 199, 3}, {10, 0, 0}};
        for (int[] c : cases) {
            HoleWater x = pool(c[0], c[1], 0);
            x.hours(1);
            is("of " + c[1] + " WATER by " + c[0], x.jointIs(2, 4), c[2]);
            is("the rest is HELD", x.wayIs(0, 6), c[1] - c[2]);
        }
        for (int[] c : cases) {
            HoleWater x = pool(c[0], 5, c[1]);
            x.hours(1);
            is("of " + c[1] + " GRAINS by " + c[0], x.out(2, 0, 1), c[2]);
            is("the rest is HELD", x.stuff(0, 1), c[1] - c[2]);
        }
        of("Terms 2 (1): it comes to what is HELD there, then one N-th of that");
        HoleWater x = ladder(10);
        x.way(4, 2, 1, 2);
        x.hours(2);
        is("10 came: 5 go", x.jointIs(2, 4), 5);
        x.hours(1);
        is("10 more came, 15 are HELD: 8 go", x.jointIs(2, 4), 8);
        x.hours(1);
        is("10 more came, 17 are HELD: 9 go", x.jointIs(2, 4), 9);
        of("Terms 2 (1): what is HELD goes on to the last grain, and fades no more");
        HoleWater y = pool(2, 5, 10);
        y.fade(0, 50);
        y.hours(1);
        is("5 of 10 FADED as they came", y.stuff(0, 3), 5);
        is("3 of 5 go", y.out(2, 0, 1), 3);
        y.hours(1);
        is("1 of 2 goes", y.out(2, 0, 1), 1);
        y.hours(1);
        is("the last goes", y.out(2, 0, 1), 1);
        y.hours(1);
        is("none is left", y.out(2, 0, 1), 0);
        is("no more FADED", y.stuff(0, 3), 5);
        of("Terms 2 (1): of each COLOUR by itself");
        HoleWater z = ladder();
        z.way(4, 2, 1, 4);
        z.put(0, 0, 7);
        z.put(0, 1, 8);
        z.put(0, 2, 9);
        z.hours(2);
        is("of 7", z.out(2, 0, 1), 2);
        is("of 8", z.out(2, 1, 1), 2);
        is("of 9", z.out(2, 2, 1), 3);
        is("of none", z.out(2, 3, 1), 0);
    }

    private static void rainAndOut() {
        of("Terms 2 (2): RAIN comes to each HOLE as WATER");
        HoleWater x = ladder(0);
        x.joint(HOLE, 1, 1);
        x.hours(1);
        is("RAIN 0", x.jointIs(0, 3), 0);
        Due.text(x, 0, "999");
        x.hours(1);
        is("RAIN 999", x.jointIs(0, 3), 999);
        is("at the other HOLE, too", x.jointIs(4, 3), 999);
        for (int j = 1; j < 4; j++) {
            is("none at JOINT " + j, x.jointIs(j, 3) + x.jointIs(j, 5), 0);
        }
        of("Terms 2 (3): at each SPRING and SEA all that is there comes OUT");
        HoleWater y = ladder(10);
        y.way(0, 2, 1, 1);
        y.way(0, 3, 1, 1);
        y.put(0, 0, 9);
        y.hours(1);
        is("not in the HOUR in which it goes in", y.jointIs(2, 4) + y.jointIs(3, 4), 0);
        y.hours(1);
        is("OUT at the SPRING", y.jointIs(2, 4), 5);
        is("OUT at the SEA", y.jointIs(3, 4), 5);
        is("none stays at the SPRING", y.jointIs(2, 3), 0);
        is("none stays at the SEA", y.jointIs(3, 3), 0);
        is("no GRAINS stay at the SPRING", y.grains(2, 0), 0);
        is("GRAINS OUT at the SPRING", y.out(2, 0, 1), 5);
        is("GRAINS OUT at the SEA", y.out(3, 0, 1), 4);
        is("stuff(0, 5)", y.stuff(0, 5), 5);
        is("stuff(0, 6)", y.stuff(0, 6), 4);
        of("Terms 2 (3): all COLOURS, and each just once");
        HoleWater all = ladder(10);
        all.way(0, 2, 1, 1);
        all.way(0, 3, 1, 1);
        for (int colour = 0; colour < 4; colour++) {
            all.put(0, colour, 10 + 2 * colour);
        }
        all.hours(2);
        for (int colour = 0; colour < 4; colour++) {
            is("COLOUR " + colour + " OUT at the SPRING", all.out(2, colour, 1), 5 + colour);
            is("COLOUR " + colour + " OUT at the SEA", all.out(3, colour, 1), 5 + colour);
            is("COLOUR " + colour + ": none stays", all.grains(2, colour) + all.grains(3, colour), 0);
        }
        all.hours(1);
        for (int colour = 0; colour < 4; colour++) {
            is("COLOUR " + colour + ": no more comes", all.out(2, colour, 1) + all.out(3, colour, 1), 0);
            is("COLOUR " + colour + " at SPRINGS", all.stuff(colour, 5), 5 + colour);
            is("COLOUR " + colour + " at SEAS", all.stuff(colour, 6), 5 + colour);
        }
        of("Terms 2 (1), (4): what comes to a ROOM goes on in the same HOUR");
        HoleWater z = ladder(10);
        z.way(0, 1, 1, 1);
        z.way(0, 102, 1, 1);
        z.put(0, 0, 9);
        z.hours(2);
        is("none at the ROOM", z.jointIs(1, 3) + z.grains(1, 0), 0);
        is("in the second WAY", z.wayIs(1, 6), 10);
        z.hours(1);
        is("OUT", z.out(2, 0, 1), 9);
    }

    private static void overflows() {
        of("Terms 2 (4): each OVERFLOW gets what is above its N");
        int[][] cases = {{1, 1, 0}, {2, 1, 1}, {10, 10, 0}, {11, 10, 1}, {9, 10, 0}, {99, 99, 0}, {100, 99, 1}, {999, 99, 900}};
        for (int[] c : cases) {
            HoleWater x = ladder(c[0]);
            x.way(3, 2, 20, c[1]);
            x.hours(1);
            is("of " + c[0] + " above " + c[1], x.wayIs(0, 6), c[2]);
            is("the rest stays", x.jointIs(0, 3), c[0] - c[2]);
        }
        of("Terms 2 (4): of what those ahead of it left, by numbers");
        HoleWater x = ladder(12);
        x.way(3, 2, 20, 5);
        x.way(3, 2, 20, 3);
        x.way(3, 2, 20, 3);
        x.way(3, 2, 20, 99);
        x.hours(1);
        is("12 above 5", x.wayIs(0, 6), 7);
        is("5 above 3", x.wayIs(1, 6), 2);
        is("3 above 3", x.wayIs(2, 6), 0);
        is("3 above 99", x.wayIs(3, 6), 0);
        is("3 stay", x.jointIs(0, 3), 3);
        HoleWater y = ladder(12);
        y.way(3, 2, 20, 3);
        y.way(3, 2, 20, 5);
        y.hours(1);
        is("12 above 3", y.wayIs(0, 6), 9);
        is("3 above 5", y.wayIs(1, 6), 0);
        of("Terms 2 (4): OVERFLOWS ahead of other WAYS, whatever their numbers");
        HoleWater z = ladder(12);
        z.way(0, 2, 20, 1);
        z.way(3, 2, 20, 5);
        z.hours(1);
        is("the WAY gets the 5 left", z.wayIs(0, 6), 5);
        is("the OVERFLOW gets 7", z.wayIs(1, 6), 7);
        is("none stays", z.jointIs(0, 3), 0);
        of("Terms 2 (4): the OVERFLOW's own N alone: an OPEN is another WAY");
        HoleWater o = ladder(12);
        o.way(1, 2, 20, 5);
        o.hours(1);
        is("the OPEN gets all", o.wayIs(0, 6), 12);
    }

    private static void otherWays() {
        of("Terms 2 (4): as much each of the rest, and the first ones 1 more each, as it goes");
        int[][] cases = {{1, 1, 0, 0}, {2, 1, 1, 0}, {3, 1, 1, 1}, {4, 2, 1, 1}, {5, 2, 2, 1}, {6, 2, 2, 2}, {998, 333, 333, 332},
            {999, 333, 333, 333}};
        for (int[] c : cases) {
            HoleWater x = ladder(c[0]);
            x.way(0, 2, 20, 1);
            x.way(4, 2, 20, 1);
            x.way(2, 2, 20, 1);
            x.hours(1);
            for (int w = 0; w < 3; w++) {
                is(c[0] + " WATER: WAY " + w, x.wayIs(w, 6), c[1 + w]);
            }
            is(c[0] + " WATER: none stays", x.jointIs(0, 3), 0);
        }
        of("Terms 2 (4): a BLIND one gets its part, too");
        HoleWater b = ladder(3);
        b.way(5, 2, 20, 1);
        b.way(0, 2, 20, 1);
        b.hours(1);
        is("2 LOST", b.count(10), 2);
        is("1 in the WAY", b.wayIs(1, 6), 1);
        of("Terms 2 (4): without these the rest stays");
        HoleWater x = ladder(10);
        x.hours(3);
        is("a HOLE without WAYS", x.jointIs(0, 3), 30);
        HoleWater y = ladder(10);
        y.way(0, 1, 1, 1);
        y.put(0, 0, 6);
        y.hours(3);
        is("a ROOM without WAYS", y.jointIs(1, 3), 20);
        is("its GRAINS stay, too", y.grains(1, 0), 6);
        HoleWater z = ladder(0);
        z.way(0, 2, 1, 1);
        z.way(3, 2, 1, 1);
        z.put(0, 0, 6);
        z.hours(2);
        is("without WATER GRAINS stay", z.grains(0, 0), 6);
        Due.text(z, 0, "1");
        z.hours(1);
        is("with 1 bucket they go", z.grains(0, 0), 0);
    }

    private static void grainsGo() {
        of("Terms 2 (4): each gets G times its WATER by W; what is left over goes with the most, of several the first");
        int[][] cases = {{1, 1, 0, 0}, {2, 2, 0, 0}, {3, 1, 1, 1}, {4, 2, 1, 1}, {5, 3, 1, 1}, {6, 2, 2, 2}, {9999, 3333, 3333, 3333},
            {9998, 3334, 3332, 3332}};
        for (int[] c : cases) {
            HoleWater x = ladder(3);
            x.joint(SEA, 1, 1);
            x.way(0, 2, 1, 1);
            x.way(0, 3, 1, 1);
            x.way(0, 4, 1, 1);
            x.put(0, 2, c[0]);
            x.hours(2);
            for (int i = 0; i < 3; i++) {
                is(c[0] + " GRAINS at JOINT " + (2 + i), x.out(2 + i, 2, 1), c[1 + i]);
            }
        }
        of("Terms 2 (4): what is left over stays if WATER stays");
        int[][] stays = {{1, 0}, {2, 1}, {9, 8}, {10, 9}, {11, 9}, {20, 18}};
        for (int[] c : stays) {
            HoleWater x = ladder(10);
            x.way(3, 2, 20, 1);
            x.put(0, 0, c[0]);
            x.hours(1);
            is("of " + c[0] + " GRAINS with 9 of 10 buckets stay", x.grains(0, 0), c[0] - c[1]);
        }
        HoleWater all = ladder(10);
        all.way(3, 2, 20, 10);
        all.put(0, 0, 5);
        all.hours(1);
        is("no bucket goes: all GRAINS stay", all.grains(0, 0), 5);
        of("Terms 2 (4): the WAY that got the most WATER");
        HoleWater x = ladder(10);
        x.way(0, 3, 1, 1);
        x.way(3, 2, 1, 4);
        x.put(0, 0, 1);
        x.hours(2);
        is("4 and 6: with the OVERFLOW", x.out(2, 0, 1), 1);
        HoleWater y = ladder(10);
        y.way(0, 3, 1, 1);
        y.way(3, 2, 1, 6);
        y.put(0, 0, 1);
        y.hours(2);
        is("6 and 4: with the WAY", y.out(3, 0, 1), 1);
        HoleWater part = ladder(10);
        part.way(0, 3, 1, 1);
        part.way(3, 2, 1, 4);
        part.put(0, 0, 11);
        part.hours(2);
        is("4 and 6 of 11, and 1 left over: the WAY", part.out(3, 0, 1), 4);
        is("4 and 6 of 11, and 1 left over: the OVERFLOW", part.out(2, 0, 1), 7);
        of("Terms 2 (4): of several the first");
        HoleWater z = ladder(10);
        z.way(0, 3, 1, 1);
        z.way(3, 2, 1, 5);
        z.put(0, 0, 1);
        z.hours(2);
        is("5 and 5: with WAY 0", z.out(3, 0, 1), 1);
        HoleWater v = ladder(10);
        v.way(3, 2, 1, 5);
        v.way(0, 3, 1, 1);
        v.put(0, 0, 1);
        v.hours(2);
        is("5 and 5: with OVERFLOW 0", v.out(2, 0, 1), 1);
    }

    private static void sieves() {
        int[][] cases = {{1, 1, 1}, {1, 9999, 9999}, {2, 1, 0}, {2, 2, 1}, {2, 3, 1}, {99, 98, 0}, {99, 99, 1}, {99, 197, 1}, {99, 198, 2},
            {7, 6, 0}, {7, 7, 1}, {7, 9999, 1428}};
        for (int[] c : cases) {
            of("Terms 2 (4): of GRAINS that go into a SIEVE one N-th is STUCK");
            HoleWater x = ladder();
            x.way(2, 2, 1, c[0]);
            x.put(0, 0, c[1]);
            x.hours(3);
            is("of " + c[1] + " by " + c[0], x.stuff(0, 2), c[2]);
            is("the others come OUT", x.stuff(0, 5), c[1] - c[2]);
            is("WATER isn't STUCK", x.jointIs(2, 4), 10);
            of("Terms 2 (4): a BLIND one, too; all else that goes into it is LOST");
            HoleWater y = ladder();
            y.way(5, 2, 1, c[0]);
            y.put(0, 0, c[1]);
            y.hours(3);
            is("STUCK of " + c[1] + " by " + c[0], y.stuff(0, 2), c[2]);
            is("LOST", y.stuff(0, 4), c[1] - c[2]);
            is("nothing comes OUT", y.stuff(0, 5), 0);
            is("WATER that was LOST", y.count(10), 30);
            is("none is in it", y.wayIs(0, 6), 0);
        }
        of("Terms 2 (4): of each COLOUR by itself");
        HoleWater x = ladder();
        x.way(2, 2, 1, 5);
        x.put(0, 0, 4);
        x.put(0, 1, 5);
        x.put(0, 2, 4);
        x.hours(1);
        is("of 4", x.stuff(0, 2), 0);
        is("of 5", x.stuff(1, 2), 1);
        is("of 4 again", x.stuff(2, 2), 0);
        of("Terms 2 (4): one N-th of what went in at once");
        HoleWater y = ladder();
        y.way(2, 2, 1, 5);
        y.put(0, 0, 4);
        y.hours(1);
        y.put(0, 0, 4);
        y.hours(1);
        is("4, then 4", y.stuff(0, 2), 0);
        y.put(0, 0, 4);
        y.put(0, 0, 4);
        y.hours(1);
        is("8 together", y.stuff(0, 2), 1);
        of("Terms 2 (5): NOW is one more");
        is("count(0)", y.count(0), 3);
    }

    private static void tapes() {
        of("Terms 3: THE TAPE (bytes, at most 60)");
        HoleWater x = ladder();
        is("59", Due.feed(x, "1".repeat(59)), 59);
        is("2 more", x.feed(0x3131, 2), FULL);
        is("how many", x.count(6), 59);
        is("1 more", x.feed(0x31, 1), 60);
        is("1 more", x.feed(0x31, 1), FULL);
        is("how many", x.count(6), 60);
        of("Terms 3: TEXTS of 1 byte and of 60");
        HoleWater y = ladder();
        is("1 byte", Due.text(y, 0, "7"), 1);
        is("it tells", y.rain(0), 7);
        is("60 bytes", Due.text(y, 0, "10" + "+1".repeat(29)), 1);
        is("it tells", y.rain(0), 39);
    }

    private static int cases(String text) {
        return Due.text(ladder(), 0, text);
    }

    private static int tells(String text) {
        HoleWater x = ladder();
        return Due.text(x, 0, text) < 0 ? -1 : x.rain(0);
    }

    private static void casesOfTexts() {
        of("Terms 3: CASE { ; CASE }, 6 at most");
        is("1 CASE", cases("1"), 1);
        is("6 CASES", cases("1;2;3;4;5;6"), 6);
        is("a 7th: the ; is the FAULT", cases("1;2;3;4;5;6;7"), -10 - 11);
        is("6 CASES and ;", cases("1;2;3;4;5;6;"), -10 - 11);
        is("6 CASES with TESTS", cases("1?1=1;2?1=1;3?1=1;4?1=1;5?1=1;6?1=1&2=2"), 6);
        is("a 7th behind a TEST", cases("1;2;3;4;5;6?1=1;7"), -10 - 15);
        is("an empty CASE", cases("1;;2"), -10 - 2);
        is("; at the end", cases("1;"), -10 - 2);
        is("; at the start", cases(";1"), -10);
        of("Terms 3: SUM, then, perhaps, ? TEST { & TEST }");
        is("? and no TEST", cases("1?"), -10 - 2);
        is("? ? ", cases("1??"), -10 - 2);
        is("& without ?", cases("1&1=1"), -10 - 1);
        is("& and no TEST", cases("1?1=1&"), -10 - 6);
        is("& ;", cases("1?1=1&;"), -10 - 6);
        is("many TESTS", cases("1" + "?1=1" + "&1=1".repeat(13)), 1);
        is("? behind a TEST", cases("1?1=1?1=1"), -10 - 5);
        of("Terms 3: TEST: SUM, one of < = >, SUM");
        is("a SUM alone", cases("1?1"), -10 - 3);
        is("a SUM alone, ;", cases("1?1;"), -10 - 3);
        is("no SUM left", cases("1?<1"), -10 - 2);
        is("no SUM right", cases("1?1<"), -10 - 4);
        is("no SUM right, ;", cases("1?1<;2"), -10 - 4);
        is("two signs", cases("1?1<=1"), -10 - 4);
        is("two TESTS in one", cases("1?1<2<3"), -10 - 5);
        is("a TEST in ( )", cases("1?(1<2)"), -10 - 4);
        is("a TEST without ?", cases("1<2"), -10 - 1);
        is("a NAME in place of the sign", cases("1?1h=2"), -10 - 3);
        is("( in place of the sign", cases("1?1(2)=2"), -10 - 3);
        is("( behind ( ) in place of the sign", cases("1?(1)(2)=2"), -10 - 5);
        is("a digit behind a NAME in place of the sign", cases("1?h1=2"), -10 - 3);
        of("Terms 3: what it tells is the SUM of the first CASE whose TESTS all hold");
        is("the first", tells("1?2=2;5"), 1);
        is("the second", tells("1?2=3;5"), 5);
        is("of two that hold the first", tells("1?1=2;5?1=1;6?1=1"), 5);
        is("the sixth", tells("1?1=2;2?1=2;3?1=2;4?1=2;5?1=2;6"), 6);
        is("all TESTS but the last hold", tells("1?1=1&2=2&3=4;5"), 5);
        is("all TESTS but the first hold", tells("1?1=2&2=2&3=3;5"), 5);
        is("all hold", tells("1?1=1&2=2&3=3;5"), 1);
        of("Terms 3: 0 without one");
        is("none of one", tells("7?1=2"), 0);
        is("none of six", tells("1?1=2;2?1=2;3?1=2;4?1=2;5?1=2;6?1=2"), 0);
        of("Terms 3: < = >");
        String[] signs = {"<", "=", ">"};
        for (int sign = 0; sign < 3; sign++) {
            for (int left = 4; left <= 6; left++) {
                boolean holds = sign == 0 ? left < 5 : sign == 1 ? left == 5 : left > 5;
                is(left + signs[sign] + "5", tells("1?" + left + signs[sign] + "5;2"), holds ? 1 : 2);
            }
        }
    }

    private static void sumsOfTexts() {
        of("Terms 3: a NUMBER of 1 to 3 digits");
        is("no digit", cases("+"), -10);
        is("1 digit", tells("7"), 7);
        is("2 digits", tells("42"), 42);
        is("3 digits", tells("998"), 998);
        is("3 digits, 0 first", tells("007"), 7);
        is("4 digits", cases("1000"), -10 - 3);
        is("4 digits, 0 first", cases("0001"), -10 - 3);
        is("4 digits behind +", cases("1+2345"), -10 - 5);
        is("4 digits in ( )", cases("(1234)"), -10 - 4);
        of("Terms 3: at most 4 of ( are open at once");
        is("4", tells("((((6))))"), 6);
        is("5: the FAULT is the 5th", cases("(((((6)))))"), -10 - 4);
        is("4, closed, and 4 again", tells("((((6))))+((((7))))"), 13);
        is("5 in a row, each closed", tells("(1)+(2)+(3)+(4)+(5)"), 15);
        is("5 further in", cases("1+(2+(3+(4+(5+(6"), -10 - 14);
        is("4 and one closed, one more", tells("((((6)+1)+(2))))"), -1);
        is("one closed, one more", tells("((((6)+1)+(2)))"), 9);
        is("4 in a TEST", tells("5?((((1))))=((((1))))"), 5);
        is("5 in a TEST", cases("5?(((((1"), -10 - 6);
        of("Terms 3: ( SUM )");
        is("( at the end", cases("1+("), -10 - 3);
        is("( ) without a SUM", cases("()"), -10 - 1);
        is("( not closed", cases("(1"), -10 - 2);
        is("( not closed, ;", cases("(1;2"), -10 - 2);
        is(") not opened", cases("1)"), -10 - 1);
        is(") one too many", cases("(1))"), -10 - 3);
        is("( behind a NUMBER", cases("1(2)"), -10 - 1);
        is("a NUMBER behind )", cases("(1)2"), -10 - 3);
        of("Terms 3: no blanks");
        is("a blank first", cases(" 1"), -10);
        is("a blank last", cases("1 "), -10 - 1);
        is("a blank within", cases("1 +1"), -10 - 1);
        is("a blank behind +", cases("1+ 1"), -10 - 2);
        is("a byte 0", cases("1" + (char) 0), -10 - 1);
        is("a byte 255", cases("1" + (char) 255), -10 - 1);
        is("a line's end", cases("1\n"), -10 - 1);
        of("Terms 3: SUM and TERM from left to right, * and / ahead of + and -");
        is("20-5-4", tells("20-5-4"), 11);
        is("20-5+4", tells("20-5+4"), 19);
        is("64/4/2", tells("64/4/2"), 8);
        is("64/4*2", tells("64/4*2"), 32);
        is("2+3*4", tells("2+3*4"), 14);
        is("20-6/3", tells("20-6/3"), 18);
        of("Terms 3: no sign ahead of a SUM");
        is("-1", cases("-1"), -10);
        is("+1", cases("+1"), -10);
        is("1--1", cases("1--1"), -10 - 2);
        of("Terms 3: Ints that wrap");
        is("the greatest is above 0", tells("1?512*512*512*16-1>0;2"), 1);
        is("one more is below 0", tells("1?512*512*512*16<0;2"), 1);
        is("the least less 1 is above 0", tells("1?0-512*512*512*16-1>0;2"), 1);
        is("twice the least is 0", tells("1?512*512*512*32=0;2"), 1);
        of("Terms 3: / cut towards 0");
        is("7/2", tells("7/2"), 3);
        is("(0-7)/2", tells("(0-7)/2+100"), 97);
        is("7/(0-2)", tells("7/(0-2)+100"), 97);
        is("(0-7)/(0-2)", tells("(0-7)/(0-2)+100"), 103);
        is("(0-1)/2", tells("(0-1)/2+100"), 100);
        is("the least by -1", tells("1?512*512*512*16/(0-1)=512*512*512*16;2"), 1);
        of("Terms 3: by 0 it is 0");
        is("7/0", tells("7/0+5"), 5);
        is("0/0", tells("0/0+5"), 5);
        is("7/(3-3)*9", tells("7/(3-3)*9+5"), 5);
        is("in a TEST", tells("1?7/0=0;2"), 1);
    }

    private static void faults() {
        of("Terms 3: FAULT: the place of the first byte with which no TEXT goes on");
        is("the first byte", cases(")"), -10);
        is("the last byte of 60", cases("1+".repeat(29) + "1)"), -10 - 59);
        is("of two the first", cases("1)2)"), -10 - 1);
        is("; in a TEST that lacks its sign", cases("1?2;3"), -10 - 3);
        is("= in a SUM", cases("1+2=3"), -10 - 3);
        is("a digit behind a NAME", cases("h1"), -10 - 1);
        is("a NAME behind a digit", cases("1h"), -10 - 1);
        is("two NAMES", cases("hd"), -10 - 1);
        of("Terms 3: FAULT: how many there are, if it ends too early");
        is("none at all", cases(""), -10);
        is("1+", cases("1+"), -10 - 2);
        is("1*", cases("1*"), -10 - 2);
        is("((((", cases("(((("), -10 - 4);
        is("60 of them", cases("1+".repeat(30)), -10 - 60);
        is("59 of them", cases("1+".repeat(29) + "("), -10 - 59);
        of("Terms 3: a TEXT with a FAULT: the one ahead stays, none stays none");
        HoleWater x = ladder();
        Due.text(x, 0, "77+");
        is("none ahead: RAIN", x.rain(0), 10);
        Due.text(x, 1, "77+");
        is("none ahead: SEEN", x.seen(2, 0, 0), 5);
        Due.text(x, 0, "33");
        Due.text(x, 0, "44)");
        is("one ahead", x.rain(0), 33);
        Due.text(x, 0, "44");
        is("in place of one ahead", x.rain(0), 44);
        of("Terms 3: NAMES (others are the FAULT at themselves)");
        for (char c = 'a'; c <= 'z'; c++) {
            is("RAIN: " + c, cases("1+" + c), "hdkf".indexOf(c) >= 0 ? 1 : -12);
            is("SEEN: " + c, Due.text(ladder(), 1, "1+" + c), "wcs".indexOf(c) >= 0 ? 1 : -12);
        }
        is("H", cases("H"), -10);
        is("F", cases("F"), -10);
        is("W", Due.text(ladder(), 1, "W"), -10);
    }

    private static void rainTexts() {
        of("Terms 3: RAIN without a TEXT: 10");
        is("rain(0)", ladder().rain(0), 10);
        of("Terms 3: RAIN (held within 0 .. 999)");
        is("-1", tells("0-1"), 0);
        is("0", tells("0"), 0);
        is("1", tells("1"), 1);
        is("998", tells("998"), 998);
        is("999", tells("999"), 999);
        is("1000", tells("999+1"), 999);
        is("the greatest", tells("512*512*512*16-1"), 999);
        is("the least", tells("512*512*512*16"), 0);
        of("Terms 3: h the rest of the HOUR by 24, d the HOUR by 24");
        int[][] hours = {{0, 0, 0}, {1, 1, 0}, {23, 23, 0}, {24, 0, 1}, {25, 1, 1}, {47, 23, 1}, {48, 0, 2}, {998, 14, 41}, {999, 15, 41}};
        HoleWater x = ladder();
        for (int[] c : hours) {
            late(x, c[0]);
            Due.text(x, 0, "h");
            is("h at " + c[0], x.rain(0), c[1]);
            Due.text(x, 0, "d");
            is("d at " + c[0], x.rain(0), c[2]);
        }
        of("Terms 3: k the JOINT's number");
        HoleWater y = new HoleWater();
        for (int j = 0; j < 16; j++) {
            y.joint(HOLE, 0, 0);
        }
        Due.text(y, 0, "k");
        for (int j = 0; j < 16; j++) {
            is("rain(" + j + ")", y.rain(j), j);
        }
        of("Terms 3: f 1 in FLOOD, else 0");
        Due.text(y, 0, "f");
        is("out of FLOOD", y.rain(0), 0);
        y.flood(true);
        is("in FLOOD", y.rain(0), 1);
        of("Terms 3: RAIN of each HOUR as that HOUR has it");
        HoleWater z = ladder();
        Due.text(z, 0, "1?h=23;2?h=0;0");
        z.hours(23);
        is("HOURS 0 .. 22", z.jointIs(0, 3), 2);
        z.hours(1);
        is("HOUR 23", z.jointIs(0, 3), 3);
        z.hours(1);
        is("HOUR 24", z.jointIs(0, 3), 5);
    }

    private static int seen(String text) {
        HoleWater x = ladder();
        Due.text(x, 1, text);
        return x.seen(2, 0, 0);
    }

    private static void seenTexts() {
        of("Terms 3: SEEN without a TEXT: 5");
        is("of a BOTTLE", ladder().seen(2, 0, 0), 5);
        is("of a BAG", ladder().seen(2, 3, 1), 5);
        of("Terms 3: SEEN (held within 1 .. 9999)");
        is("-1", seen("0-1"), 1);
        is("0", seen("0"), 1);
        is("0 without a CASE", seen("7?1=2"), 1);
        is("1", seen("1"), 1);
        is("2", seen("2"), 2);
        is("9998", seen("999*10+8"), 9998);
        is("9999", seen("999*10+9"), 9999);
        is("10000", seen("100*100"), 9999);
        is("the least", seen("512*512*512*16"), 1);
        of("Terms 3: w WATER that came OUT there in the latest HOUR");
        HoleWater x = ladder(30);
        x.way(0, 2, 1, 1);
        Due.text(x, 1, "w+100");
        is("no HOUR yet", x.seen(2, 0, 0), 100);
        x.hours(1);
        is("HOUR 0: none", x.seen(2, 0, 0), 100);
        Due.text(x, 0, "3");
        x.hours(1);
        is("HOUR 1", x.seen(2, 0, 0), 130);
        x.hours(1);
        is("HOUR 2, not ever", x.seen(2, 0, 1), 103);
        of("Terms 3: c the COLOUR, s 0 of a BOTTLE, 1 of a BAG");
        Due.text(x, 1, "c*10+s+100");
        for (int colour = 0; colour < 4; colour++) {
            for (int sort = 0; sort < 2; sort++) {
                is("seen(2, " + colour + ", " + sort + ")", x.seen(2, colour, sort), 100 + colour * 10 + sort);
            }
        }
        of("Terms 3: one TEXT for each USE");
        HoleWater y = ladder();
        Due.text(y, 0, "70");
        is("SEEN has none", y.seen(2, 0, 0), 5);
        Due.text(y, 1, "80");
        is("RAIN keeps its own", y.rain(0), 70);
        is("SEEN has its own", y.seen(2, 0, 0), 80);
    }

    private static void floodPutsLooks() {
        of("Terms 4: it is FLOOD, or not (not at first)");
        is("count(9)", new HoleWater().count(9), 0);
        is("flood(true)", new HoleWater().flood(true), 0);
        of("Terms 4: PUTS, at most 40");
        HoleWater x = ladder();
        for (int p = 0; p < 40; p++) {
            is("put " + p, x.put(0, 0, 1 + p), p);
        }
        is("put 40", x.put(0, 0, 1), FULL);
        is("count(3)", x.count(3), 40);
        is("putIs(39, 2)", x.putIs(39, 2), 40);
        is("stuff(0, 0)", x.stuff(0, 0), 820);
        of("Terms 4: LOOKS, at most 60");
        HoleWater y = ladder();
        for (int l = 0; l < 60; l++) {
            is("look " + l, l % 2 == 0 ? y.bottle(2, 0) : y.bag(2, 0, 1), 0);
        }
        is("bottle 60", y.bottle(2, 0), FULL);
        is("bag 60", y.bag(2, 0, 1), FULL);
        is("count(4)", y.count(4), 60);
        is("lookIs(59, 3)", y.lookIs(59, 3), 1);
    }

    /** At a SPRING 2, with a WAY of 1 HOUR, some GRAINS of COLOUR 0 come OUT in each of some HOURS from 1 on. */
    private static HoleWater stream(int... grains) {
        HoleWater x = ladder();
        x.way(0, 2, 1, 1);
        for (int g : grains) {
            if (g > 0) {
                x.put(0, 0, g);
            }
            x.hours(1);
        }
        x.hours(1);
        return x;
    }

    private static void looksSee() {
        of("Terms 4: by a BOTTLE: GRAINS that came OUT in the latest HOUR; it SEES if they are SEEN or more");
        is("4 of 5", stream(4).bottle(2, 0), 0);
        is("5 of 5", stream(5).bottle(2, 0), 5);
        is("6 of 5", stream(6).bottle(2, 0), 6);
        is("those of the HOUR ahead don't count", stream(9, 4).bottle(2, 0), 0);
        is("those of another COLOUR don't count", stream(9).bottle(2, 1), 0);
        HoleWater most = stream(9999);
        Due.text(most, 1, "100*100");
        is("9999 of 9999", most.bottle(2, 0), 9999);
        HoleWater least = stream(1, 0);
        Due.text(least, 1, "0");
        is("0 of 1", least.bottle(2, 0), 0);
        is("0 isn't SEEN", least.lookIs(0, 4), 0);
        HoleWater one = stream(1);
        Due.text(one, 1, "0");
        is("1 of 1", one.bottle(2, 0), 1);
        is("1 is SEEN", one.lookIs(0, 4), 1);
        of("Terms 4: by a BAG: in the latest n HOURS together");
        is("4 in 1", stream(1, 4).bag(2, 0, 1), 0);
        is("4 and 1 in 2", stream(1, 4).bag(2, 0, 2), 1);
        is("4 and 0 and 1 in 2", stream(1, 0, 4).bag(2, 0, 2), 0);
        is("4 and 0 and 1 in 3", stream(1, 0, 4).bag(2, 0, 3), 1);
        int[] day = new int[24];
        day[0] = 5;
        is("5, 24 HOURS ago, in 24", stream(day).bag(2, 0, 24), 1);
        is("5, 24 HOURS ago, in 23", stream(day).bag(2, 0, 23), 0);
        int[] more = new int[25];
        more[0] = 5;
        is("5, 25 HOURS ago, in 24", stream(more).bag(2, 0, 24), 0);
        is("a BAG of more HOURS than there were", stream(5).bag(2, 0, 24), 1);
        of("Terms 4: SEEN of a BOTTLE, and of a BAG");
        HoleWater unlike = stream(5);
        Due.text(unlike, 1, "6-s");
        is("a BOTTLE: 5 of 6", unlike.bottle(2, 0), 0);
        is("a BAG of 1 HOUR: 5 of 5", unlike.bag(2, 0, 1), 1);
        Due.text(unlike, 1, "5+s");
        is("a BOTTLE: 5 of 5", unlike.bottle(2, 0), 5);
        is("a BAG of 1 HOUR: 5 of 6", unlike.bag(2, 0, 1), 0);
        Due.text(unlike, 1, "6+s");
        is("s is 0 of a BOTTLE: 5 of 6", unlike.bottle(2, 0), 0);
        Due.text(unlike, 1, "4+s");
        is("s is 1 of a BAG of 24 HOURS: 5 of 5", unlike.bag(2, 0, 24), 1);
        Due.text(unlike, 1, "w-5");
        is("w of the latest HOUR, 10: 5 of 5", unlike.bag(2, 0, 24), 1);
        Due.text(unlike, 1, "w-4");
        is("w of the latest HOUR, 10: 5 of 6", unlike.bag(2, 0, 24), 0);
        Due.text(unlike, 1, "5+c");
        is("c 0: 5 of 5", unlike.bottle(2, 0), 5);
        of("Terms 4: LOOKS ahead of all HOURS");
        is("a BAG ahead of all HOURS", ladder().bag(2, 0, 24), 0);
        is("a BOTTLE ahead of all HOURS", ladder().bottle(2, 0), 0);
    }

    /** HOLES 0, 1 with a WAY of 1 HOUR each to SPRING 2, and a SPRING 3 to which none goes. */
    private static HoleWater two() {
        HoleWater x = new HoleWater();
        x.joint(HOLE, 10, 90);
        x.joint(HOLE, 30, 80);
        x.joint(SPRING, 20, 10);
        x.joint(SPRING, 40, 10);
        x.way(0, 2, 1, 1);
        x.way(0, 102, 1, 1);
        return x;
    }

    private static void looksSay() {
        of("Terms 4: 0 NOTHING: no PUT, or no LOOK");
        HoleWater x = two();
        is("neither", x.joined(0, 2, 0), 0);
        x.bottle(2, 0);
        is("a LOOK alone", x.joined(0, 2, 0), 0);
        HoleWater p = two();
        p.put(0, 0, 100);
        p.hours(2);
        is("a PUT alone", p.joined(0, 2, 0), 0);
        p.bottle(2, 1);
        is("a LOOK for another COLOUR", p.joined(0, 2, 0), 0);
        p.bottle(3, 0);
        is("a LOOK at another SPRING", p.joined(0, 2, 0), 0);
        of("Terms 4: only PUTS that were made ahead of a LOOK count for it");
        HoleWater a = two();
        a.bottle(2, 0);
        a.put(0, 0, 100);
        is("the LOOK ahead, in the same HOUR", a.joined(0, 2, 0), 0);
        a.bottle(2, 0);
        is("the PUT ahead, in the same HOUR", a.joined(0, 2, 0), 1);
        a.hours(2);
        a.bottle(2, 0);
        a.put(1, 0, 100);
        is("another HOLE's PUT behind it", a.joined(0, 2, 0), 3);
        is("of the other HOLE", a.joined(1, 2, 0), 0);
        of("Terms 4: 3 SURE: and in no other one; 2 MAY, else");
        HoleWater b = two();
        b.put(0, 0, 100);
        b.put(1, 0, 100);
        b.hours(2);
        b.bottle(2, 0);
        is("put in both: of 0", b.joined(0, 2, 0), 2);
        is("put in both: of 1", b.joined(1, 2, 0), 2);
        b.put(0, 1, 100);
        b.put(0, 1, 100);
        b.hours(2);
        b.bottle(2, 1);
        is("SURE of one COLOUR is more than MAY of another", b.joined(0, 2, 0), 3);
        is("of 1 MAY still", b.joined(1, 2, 0), 2);
        of("Terms 4: 1 NOT YET, else: one SAW nothing of a COLOUR that was put in this HOLE");
        HoleWater c = two();
        c.put(0, 0, 4);
        c.hours(2);
        is("4 of 5", c.bottle(2, 0), 0);
        is("NOT YET", c.joined(0, 2, 0), 1);
        c.put(0, 1, 5);
        c.hours(2);
        is("5 of 5", c.bottle(2, 1), 5);
        is("SURE by another COLOUR", c.joined(0, 2, 0), 3);
        of("Terms 4: in all water (0), out of FLOOD (1), in FLOOD (2)");
        HoleWater d = two();
        d.put(0, 0, 100);
        d.bottle(2, 0);
        is("all: NOT YET", d.joined(0, 2, 0), 1);
        is("out of FLOOD: NOT YET", d.joined(0, 2, 1), 1);
        is("in FLOOD: NOTHING", d.joined(0, 2, 2), 0);
        d.hours(2);
        d.flood(true);
        d.bottle(2, 0);
        is("all: SURE", d.joined(0, 2, 0), 3);
        is("out of FLOOD: NOT YET", d.joined(0, 2, 1), 1);
        is("in FLOOD: SURE", d.joined(0, 2, 2), 3);
        d.flood(false);
        is("FLOOD as it was at the LOOK", d.joined(0, 2, 2), 3);
    }

    /** 60 LOOKS, of which the last alone SAW: it counts as any other. */
    private static void lastOfSixty() {
        of("Terms 4: of 60 LOOKS the last one");
        HoleWater x = two();
        x.put(0, 0, 100);
        x.hours(2);
        for (int l = 0; l < 59; l++) {
            x.bottle(3, 1);
        }
        is("ahead of it", x.joined(0, 2, 0), 0);
        is("night ahead of it", x.night(1, 2, 0), 2);
        is("the last", x.bottle(2, 0), 100);
        is("joined", x.joined(0, 2, 0), 3);
        is("never", x.never(0, 2), 0);
        is("span, end 1", x.span(0, 2, 0, 1), 2);
        is("span, end 0", x.span(0, 2, 0, 0), 0);
        is("share", x.share(0), 0);
        is("count(5)", x.count(5), 1);
        is("lookIs(59, 4)", x.lookIs(59, 4), 1);
        is("rooms", x.rooms(3, 12), 1);
        is("night: HOLE 1", x.night(1, 2, 1), 2);
        x.town(2, true);
        is("night: no HOLE 0 any more", x.night(2, 1, 0), NONE);
        is("musts", x.musts(0, 0), NONE);
        is("crosses", x.crosses(0, 2, 1, 3), 0);
        is("the 61st", x.bag(2, 0, 24), FULL);
    }

    /** HOLES 0 .. 5, SPRINGS 6 .. 11; HOLE h has a WAY to SPRING 6 + s where bit s of ways[h] is set. */
    private static HoleWater field(int... ways) {
        HoleWater x = new HoleWater();
        for (int j = 0; j < 12; j++) {
            x.joint(j < 6 ? HOLE : SPRING, j, j < 6 ? 90 : 10);
        }
        for (int h = 0; h < ways.length; h++) {
            for (int s = 0; s < 6; s++) {
                if ((ways[h] >> s & 1) == 1) {
                    x.way(0, h * 100 + 6 + s, 1, 1);
                }
            }
        }
        return x;
    }

    /** Each of the first holes is put a COLOUR of its own (4 at most); some SPRINGS (bits) are looked at for all. */
    private static void lookAll(HoleWater x, int holes, int springs) {
        for (int h = 0; h < holes; h++) {
            x.put(h, h, 9999);
        }
        x.hours(2);
        for (int h = 0; h < holes; h++) {
            for (int s = 0; s < 6; s++) {
                if ((springs >> s & 1) == 1) {
                    x.bottle(6 + s, h);
                }
            }
        }
    }

    private static void fewestRooms() {
        of("Terms 4: FEWEST ROOMS: none of nothing");
        HoleWater x = field(7, 7, 7, 7);
        is("no HOLES, no SPRINGS", x.rooms(0, 0), 0);
        is("nothing SAID", x.rooms(15, 15 << 6), 0);
        lookAll(x, 4, 7);
        is("no SPRINGS", x.rooms(15, 0), 0);
        is("no HOLES", x.rooms(0, 15 << 6), 0);
        is("HOLES of which nothing is SAID", x.rooms(48, 31 << 6), 0);
        of("Terms 4: each pair of which it is SAID SURE is in one");
        is("all of them in 1", x.rooms(15, 7 << 6), 1);
        is("1 with 1", x.rooms(8, 4 << 6), 1);
        of("Terms 4: of no pair in one it is SAID NOT YET");
        HoleWater y = field(1, 2, 4, 8);
        lookAll(y, 4, 15);
        is("4 apart", y.rooms(15, 15 << 6), 4);
        is("2 of them", y.rooms(5, 15 << 6), 2);
        is("1 of them", y.rooms(4, 15 << 6), 1);
        is("2 of them, 1 SPRING", y.rooms(5, 1 << 6), 1);
        HoleWater free = field(1, 2, 4, 8);
        free.put(0, 0, 100);
        free.put(1, 1, 100);
        free.hours(2);
        free.bottle(6, 0);
        free.bottle(7, 1);
        is("pairs of which NOTHING is SAID may be in one", free.rooms(3, 3 << 6), 1);
        free.bottle(7, 0);
        is("one NOT YET parts them", free.rooms(3, 3 << 6), 2);
        for (int s = 0; s < 4; s++) {
            for (int h = 0; h < 2; h++) {
                HoleWater apart = field(15 * (1 - h), 15 * h);
                apart.put(0, 0, 100);
                apart.put(1, 1, 100);
                apart.hours(2);
                apart.bottle(6 + s, 0);
                apart.bottle(6 + s, 1);
                is("HOLE " + h + " SURE at SPRING " + s, apart.joined(h, 6 + s, 0), 3);
                is("the other one NOT YET there", apart.joined(1 - h, 6 + s, 0), 1);
                is("1 pair is in 1 ROOM, whoever may not be in it", apart.rooms(3, 15 << 6), 1);
            }
        }
        of("Terms 4: one pair SURE among more");
        HoleWater one = new HoleWater();
        one.joint(SPRING, 0, 10);
        one.joint(SPRING, 0, 10);
        one.joint(HOLE, 0, 90);
        one.joint(HOLE, 0, 90);
        one.way(0, 200, 1, 1);
        one.put(2, 0, 100);
        one.hours(2);
        is("SPRING 0", one.bottle(0, 0), 100);
        is("the first of 2 with the first of 2", one.rooms(12, 3), 1);
        is("the first alone", one.rooms(4, 1), 1);
        is("the others alone", one.rooms(8, 3) + one.rooms(12, 2), 0);
        is("SPRING 0 is no pair for a NIGHT", one.night(1, 1, 2), 2);
        one.town(0, true);
        is("LOOK 0 at a TOWN: HOLE 3 alone may", one.night(1, 1, 1), 8);
        is("LOOK 0 at a TOWN: no two may", one.night(2, 1, 0), NONE);
        of("Terms 4: a pair in two ROOMS");
        HoleWater z = field(3, 6);
        lookAll(z, 2, 7);
        is("0 with 6, 7 and 1 with 7, 8", z.rooms(3, 7 << 6), 2);
        HoleWater cross = field(3, 6, 5);
        lookAll(cross, 3, 7);
        is("a ring of 3", cross.rooms(7, 7 << 6), 3);
        of("Terms 4: MAY in a pair: may be in one, needn't");
        HoleWater m = field(1, 1);
        m.put(0, 0, 100);
        m.put(1, 0, 100);
        m.hours(2);
        m.bottle(6, 0);
        is("MAY alone needs none", m.rooms(3, 1 << 6), 0);
        HoleWater both = field(3, 3);
        both.put(0, 0, 100);
        both.put(1, 1, 100);
        both.put(0, 2, 100);
        both.put(1, 2, 100);
        both.hours(2);
        both.bottle(6, 0);
        both.bottle(7, 1);
        both.bottle(6, 2);
        both.bottle(7, 2);
        is("0 at 6, 1 at 7 SURE", both.joined(0, 6, 0) + both.joined(1, 7, 0), 6);
        is("0 at 7, 1 at 6 MAY", both.joined(0, 7, 0) + both.joined(1, 6, 0), 4);
        is("MAY may be in one", both.rooms(3, 3 << 6), 1);
        of("Terms 4: 5 HOLES and 5 SPRINGS");
        HoleWater five = field(1, 2, 4, 8, 16);
        lookAll(five, 4, 31);
        five.put(4, 0, 9999);
        five.hours(2);
        five.bottle(10, 0);
        is("MAY of the fifth", five.joined(4, 10, 0), 2);
        is("4 apart, and the fifth MAY", five.rooms(31, 31 << 6), 4);
    }

    private static void nights() {
        of("Terms 4: the most pairs of which NOTHING is SAID");
        HoleWater x = field(0);
        is("4 with 6", x.night(4, 6, 0), 24);
        is("1 with 1", x.night(1, 1, 0), 1);
        of("Terms 4: of several the least HOLES as bits, then the least SPRINGS");
        is("1 HOLE", x.night(1, 1, 1), 1);
        is("1 SPRING", x.night(1, 1, 2), 1 << 6);
        is("4 HOLES", x.night(4, 6, 1), 15);
        is("6 SPRINGS", x.night(4, 6, 2), 63 << 6);
        x.put(0, 0, 1);
        x.bottle(6, 0);
        is("0 at 6 is looked at: HOLE 0 still", x.night(1, 1, 1), 1);
        is("SPRING 7", x.night(1, 1, 2), 1 << 7);
        is("with 6 SPRINGS HOLE 1 has more", x.night(1, 6, 1), 2);
        is("6 pairs", x.night(1, 6, 0), 6);
        is("with 5 SPRINGS HOLE 0 again", x.night(1, 5, 1), 1);
        is("all SPRINGS but 6", x.night(1, 5, 2), 62 << 6);
        of("Terms 4: no pairs left: 0, and the least of all");
        HoleWater none = new HoleWater();
        none.joint(HOLE, 0, 9);
        none.joint(HOLE, 0, 9);
        none.joint(SPRING, 0, 1);
        none.joint(SPRING, 0, 1);
        none.put(0, 0, 1);
        none.put(1, 0, 1);
        none.bottle(2, 0);
        none.bottle(3, 0);
        is("pairs", none.night(2, 2, 0), 0);
        is("HOLES", none.night(1, 1, 1), 1);
        is("SPRINGS", none.night(1, 1, 2), 4);
        of("Terms 4: no HOLE of which SURE or MAY is SAID at a TOWN");
        HoleWater t = field(1, 1);
        t.put(0, 0, 1000);
        t.bottle(6, 0);
        t.town(6, true);
        is("NOT YET at a TOWN may", t.night(1, 5, 1), 1);
        t.town(6, false);
        t.hours(2);
        t.bottle(6, 0);
        is("SURE at no TOWN may", t.night(1, 5, 1), 1);
        t.town(6, true);
        is("SURE at a TOWN may not", t.night(1, 5, 1), 2);
        t.town(6, false);
        is("a TOWN no more", t.night(1, 5, 1), 1);
        t.town(6, true);
        t.put(1, 1, 1000);
        t.put(2, 1, 1000);
        t.hours(2);
        t.bottle(6, 1);
        is("MAY at a TOWN may not", t.night(1, 5, 1), 8);
        is("3 are left", t.night(3, 1, 1), 8 + 16 + 32);
        is("4 are not left", t.night(4, 1, 0), NONE);
        of("Terms 4: a TOWN may be one of the SPRINGS; SPRINGS are no TOWNS at first");
        is("6 SPRINGS with the TOWN", t.night(1, 6, 2), 63 << 6);
        is("jointIs(7, 6)", t.jointIs(7, 6), 0);
    }

    private static void voices() {
        of("Terms 5: ints that wrap");
        HoleWater x = ladder();
        x.way(0, 1, 20, 99);
        x.way(3, 1, 20, 99);
        x.way(4, 1, 20, 99);
        x.way(2, 1, 20, 99);
        x.way(5, 1, 20, 99);
        x.way(1, 1, 20, 99);
        is("WAY runs, just below", x.voice(0, 0, MAX - 20), MAX);
        is("WAY runs, just above", x.voice(0, 0, MAX - 19), MIN);
        is("WAY holds", x.voice(0, 1, MAX - 20), -2);
        is("WAY spills", x.voice(0, 2, MAX - 20), -101);
        is("OPEN runs, the least less 1", x.voice(5, 0, MAX - 19), MAX);
        is("OVERFLOW runs", x.voice(1, 0, MAX - 98), MIN + 19);
        is("OVERFLOW spills", x.voice(1, 2, 1 << 29), (((1 << 29) + 118) * 2 - 99) * 3);
        is("POOL spills, 0 less the least", x.voice(2, 2, (1 << 30) - 20), MIN);
        is("SIEVE holds", x.voice(3, 1, (1 << 30) - 20), MIN ^ 99);
        is("BLIND tells", x.voice(4, 3, MAX), MIN + 19 - MAX / 79);
        of("Terms 5: x by (n - l), cut (PARTED if that is 0)");
        for (int kind = 0; kind < 6; kind++) {
            HoleWater y = ladder();
            y.way(kind, 1, 7, 6);
            y.way(kind, 1, 7, 7);
            y.way(kind, 1, 7, 8);
            is("by -1, KIND " + kind, y.voice(0, 3, 10) == PARTED ? 1 : 0, 0);
            is("by 0, KIND " + kind, y.voice(1, 3, 10), PARTED);
            is("by 1, KIND " + kind, y.voice(2, 3, 10) == PARTED ? 1 : 0, 0);
            for (int act = 0; act < 3; act++) {
                is("no PARTED of VOICE " + act, y.voice(1, act, 10) == PARTED ? 1 : 0, 0);
            }
        }
        HoleWater y = ladder();
        y.way(0, 1, 7, 6);
        y.way(0, 1, 7, 8);
        y.way(0, 1, 1, 99);
        y.way(0, 1, 20, 1);
        is("10 by -1", y.voice(0, 3, 10), -10);
        is("10 by 1", y.voice(1, 3, 10), 10);
        is("the least by -1 wraps", y.voice(0, 3, MIN), MIN);
        is("97 by 98", y.voice(2, 3, 97), 0);
        is("98 by 98", y.voice(2, 3, 98), 1);
        is("-97 by 98", y.voice(2, 3, -97), 0);
        is("-98 by 98", y.voice(2, 3, -98), -1);
        is("-38 by -19", y.voice(3, 3, -38), 2);
        of("Terms 5: THE TRACE: of the latest voice(), as they began");
        HoleWater t = ladder();
        is("none at first", t.count(8), 0);
        t.way(3, 1, 7, 7);
        t.way(5, 1, 7, 7);
        t.voice(0, 2, 1);
        int[] spills = {41, 12, 11, 40, 20, 10};
        is("the longest", t.count(8), 6);
        for (int i = 0; i < 6; i++) {
            is("trace(" + i + ")", t.trace(i), spills[i]);
        }
        is("trace(6)", t.trace(6), NONE);
        is("PARTED", t.voice(0, 3, 1), PARTED);
        is("OVERFLOW PARTED: how many", t.count(8), 2);
        is("trace(0)", t.trace(0), 21);
        is("trace(1)", t.trace(1), 13);
        is("trace(2)", t.trace(2), NONE);
        is("PARTED", t.voice(1, 3, 1), PARTED);
        is("BLIND PARTED: what stands left began first", t.trace(0) * 10000 + t.trace(1) * 100 + t.trace(2), 601013);
        is("trace(3)", t.trace(3), NONE);
        t.voice(1, 0, 1);
        is("the latest alone", t.count(8), 1);
    }

    private static void sheets() {
        of("Terms 6: SHEETS 0 .. 3, missing at first");
        HoleWater x = ladder();
        is("sheet(-1, ..)", x.sheet(-1, 8, 1), BEYOND);
        for (int sheet = 0; sheet < 4; sheet++) {
            is("missing: " + sheet, x.place(sheet, 0, 1), NONE);
            is("sheet(" + sheet + ", ..)", x.sheet(sheet, 8, 1), 1);
            is("there: " + sheet, x.place(sheet, 0, 1), 1);
        }
        is("sheet(4, ..)", x.sheet(4, 8, 1), BEYOND);
        of("Terms 6: at most 24 numbers");
        is("24", x.sheet(0, 32, 24), 1);
        is("place(0, 23, 1)", x.place(0, 23, 1), 1);
        is("place(0, 24, 1)", x.place(0, 24, 1), BEYOND);
        is("25", x.sheet(0, 32, 25), BEYOND);
        is("none", x.sheet(0, 32, 0), 1);
        is("place(0, 0, 1)", x.place(0, 0, 1), BEYOND);
        of("Terms 6: rows of 8, 16, 32 bits");
        int[][] cases = {{8, 127, 127}, {8, 128, 0}, {8, 255, 0}, {8, 256, 0}, {8, 257, 1}, {8, -1, 0}, {8, -255, 1}, {16, 255, 255},
            {16, 9999, 9999}, {16, 10000, 0}, {16, 65535, 0}, {16, 65536, 0}, {16, 65537, 1}, {16, -65535, 1}, {32, 65537, 0}, {32, 9999, 9999},
            {32, 10000, 0}, {32, 1, 1}, {32, 0, 0}, {32, MIN, 0}, {8, MIN + 3, 3}, {16, MIN + 9999, 9999}, {16, MAX, 0}};
        for (int[] c : cases) {
            HoleWater y = ladder();
            y.sheet(2, c[0], 1);
            y.place(2, 0, c[1]);
            is(c[1] + " in " + c[0] + " bits can be put", y.pours(0, 0, 2, 0, 1), c[2] == 0 ? 0 : 1);
            is(c[1] + " in " + c[0] + " bits", y.stuff(0, 0), c[2]);
        }
    }
}
