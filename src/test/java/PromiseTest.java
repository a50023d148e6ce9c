/** Each promise by itself: ordinary inputs, edges, wrong inputs, with answers worked out by hand. */
public final class PromiseTest {
    private static final int BEYOND = Due.BEYOND;
    private static final int NONE = Due.NONE;
    private static final int STATE = Due.STATE;
    private static final int FULL = Due.FULL;
    private static final int KIND = Due.KIND;
    private static final int PARTED = Due.PARTED;
    private static final int MIN = Integer.MIN_VALUE;
    private static final int MAX = Integer.MAX_VALUE;
    private static final Due DUE = new Due();

    private static void is(String call, long got, long want) {
        DUE.is(call, got, want);
    }

    public static void main(String[] args) {
        newObject();
        joints();
        ways();
        kindsOfWays();
        hangsAndQuick();
        floodAndFade();
        hoursPass();
        waterIsShared();
        grainsAreShared();
        leftOverGoesWithTheMost();
        poolsHold();
        blindEnds();
        puts();
        poursFromSheets();
        stuffAddsUp();
        outs();
        spills();
        tapes();
        faults();
        textsTell();
        seenTexts();
        bottlesAndBags();
        looksSay();
        spans();
        mustsInFlood();
        crossing();
        fewestRooms();
        townsAndNights();
        shares();
        voices();
        sheets();
        moves();
        images();
        tellsAndChecks();
        counts();
        tolds();
        DUE.end();
    }

    private static void newObject() {
        HoleWater x = new HoleWater();
        for (int what = 0; what <= 11; what++) {
            is("new count(" + what + ")", x.count(what), 0);
        }
        is("new jointIs(0, 0)", x.jointIs(0, 0), BEYOND);
        is("new wayIs(0, 0)", x.wayIs(0, 0), BEYOND);
        is("new putIs(0, 0)", x.putIs(0, 0), BEYOND);
        is("new lookIs(0, 0)", x.lookIs(0, 0), BEYOND);
        is("new trace(0)", x.trace(0), NONE);
        is("new restore()", x.restore(), NONE);
        is("new place(0, 0, 0)", x.place(0, 0, 0), NONE);
        is("new hangs(0, true)", x.hangs(0, true), BEYOND);
        is("new rooms(0, 0)", x.rooms(0, 0), 0);
        is("new rooms(1, 0)", x.rooms(1, 0), BEYOND);
    }

    private static void joints() {
        HoleWater x = new HoleWater();
        is("joint(-1, 0, 0)", x.joint(-1, 0, 0), BEYOND);
        is("joint(4, 0, 0)", x.joint(4, 0, 0), BEYOND);
        is("joint(0, -1, 0)", x.joint(0, -1, 0), BEYOND);
        is("joint(0, 100, 0)", x.joint(0, 100, 0), BEYOND);
        is("joint(0, 0, -1)", x.joint(0, 0, -1), BEYOND);
        is("joint(0, 0, 100)", x.joint(0, 0, 100), BEYOND);
        is("joint(0, 0, 0)", x.joint(0, 0, 0), 0);
        is("joint(3, 99, 99)", x.joint(3, 99, 99), 1);
        is("joint(2, 7, 8)", x.joint(2, 7, 8), 2);
        for (int i = 3; i < 16; i++) {
            is("joint(1, i, i)", x.joint(1, i, i), i);
        }
        is("joint, 17th", x.joint(1, 1, 1), FULL);
        is("joint, 17th, beyond", x.joint(5, 1, 1), BEYOND);
        is("count(1)", x.count(1), 16);
        is("jointIs(1, 0)", x.jointIs(1, 0), 3);
        is("jointIs(2, 1)", x.jointIs(2, 1), 7);
        is("jointIs(2, 2)", x.jointIs(2, 2), 8);
        is("jointIs(2, 3)", x.jointIs(2, 3), 0);
        is("jointIs(2, 4)", x.jointIs(2, 4), 0);
        is("jointIs(2, 5)", x.jointIs(2, 5), 0);
        is("jointIs(2, 6)", x.jointIs(2, 6), 0);
        is("jointIs(2, 7)", x.jointIs(2, 7), BEYOND);
        is("jointIs(2, -1)", x.jointIs(2, -1), BEYOND);
        is("jointIs(16, 0)", x.jointIs(16, 0), BEYOND);
        is("jointIs(MIN, 0)", x.jointIs(MIN, 0), BEYOND);
    }

    /** A HOLE 0 above a ROOM 1 above a SPRING 2 and a SEA 3. */
    private static HoleWater ladder() {
        HoleWater x = new HoleWater();
        x.joint(0, 10, 90);
        x.joint(1, 20, 50);
        x.joint(2, 30, 10);
        x.joint(3, 40, 0);
        return x;
    }

    private static void ways() {
        HoleWater x = ladder();
        is("way(-1, 1, 1, 1)", x.way(-1, 1, 1, 1), BEYOND);
        is("way(6, 1, 1, 1)", x.way(6, 1, 1, 1), BEYOND);
        is("way(0, -1, 1, 1)", x.way(0, -1, 1, 1), BEYOND);
        is("way(0, MIN, 1, 1)", x.way(0, MIN, 1, 1), BEYOND);
        is("way(0, 4, 1, 1)", x.way(0, 4, 1, 1), BEYOND);
        is("way(0, 401, 1, 1)", x.way(0, 401, 1, 1), BEYOND);
        is("way(0, MAX, 1, 1)", x.way(0, MAX, 1, 1), BEYOND);
        is("way(0, 1, 0, 1)", x.way(0, 1, 0, 1), BEYOND);
        is("way(0, 1, 21, 1)", x.way(0, 1, 21, 1), BEYOND);
        is("way(0, 1, 1, 0)", x.way(0, 1, 1, 0), BEYOND);
        is("way(0, 1, 1, 100)", x.way(0, 1, 1, 100), BEYOND);
        is("way from SPRING, n beyond", x.way(0, 201, 1, 0), BEYOND);
        is("way from SPRING", x.way(0, 203, 1, 1), KIND);
        is("way from SEA", x.way(0, 301, 1, 1), KIND);
        is("way to HOLE", x.way(0, 100, 1, 1), KIND);
        is("way(0, 0, 1, 1)", x.way(0, 0, 1, 1), KIND);
        is("way to itself", x.way(0, 101, 1, 1), STATE);
        x.joint(1, 0, 50);
        x.joint(1, 0, 60);
        is("way level", x.way(0, 104, 1, 1), STATE);
        is("way up", x.way(0, 105, 1, 1), STATE);
        is("way(0, 1, 1, 1)", x.way(0, 1, 1, 1), 0);
        is("way(5, 103, 20, 99)", x.way(5, 103, 20, 99), 1);
        for (int i = 2; i < 24; i++) {
            is("way(4, 102, 3, 4)", x.way(4, 102, 3, 4), i);
        }
        is("way, 25th", x.way(0, 1, 1, 1), FULL);
        is("way, 25th, not down", x.way(0, 105, 1, 1), STATE);
        int[] due = {5, 1, 3, 20, 99, 40, 0};
        for (int what = 0; what < 7; what++) {
            is("wayIs(1, " + what + ")", x.wayIs(1, what), due[what]);
        }
        is("wayIs(1, 7)", x.wayIs(1, 7), BEYOND);
        is("wayIs(1, -1)", x.wayIs(1, -1), BEYOND);
        is("wayIs(24, 0)", x.wayIs(24, 0), BEYOND);
        is("wayIs(-1, 0)", x.wayIs(-1, 0), BEYOND);
    }

    private static void kindsOfWays() {
        HoleWater x = ladder();
        for (int kind = 0; kind < 6; kind++) {
            x.way(kind, 1, 7, 3);
        }
        int[] takes = {7, 4, 14, 4, 7, 14};
        int[] above = {-1, 0, 0, 1, 0, 2};
        for (int w = 0; w < 6; w++) {
            for (int kind = 0; kind < 6; kind++) {
                int up = w;
                while (up >= 0 && up != kind) {
                    up = above[up];
                }
                is("as(" + w + ", " + kind + ")", x.as(w, kind), up < 0 ? KIND : takes[w]);
            }
            is("wayIs(" + w + ", 0)", x.wayIs(w, 0), w);
            is("wayIs(" + w + ", 5)", x.wayIs(w, 5), takes[w]);
        }
        is("as(6, 0)", x.as(6, 0), BEYOND);
        is("as(-1, 0)", x.as(-1, 0), BEYOND);
        is("as(0, -1)", x.as(0, -1), BEYOND);
        is("as(0, 6)", x.as(0, 6), BEYOND);
        x.way(1, 1, 1, 1);
        is("as an OPEN of LONG 1", x.as(6, 1), 1);
    }

    private static void hangsAndQuick() {
        HoleWater x = ladder();
        x.joint(0, 0, 99);
        x.joint(0, 0, 98);
        x.way(0, 1, 5, 1);
        x.way(3, 401, 9, 1);
        x.way(5, 501, 1, 1);
        x.way(2, 102, 3, 1);
        x.way(1, 103, 20, 1);
        x.way(0, 2, 15, 1);
        is("hangs(2, false)", x.hangs(2, false), 1);
        is("hangs(2, true)", x.hangs(2, true), 17);
        is("hangs(3, true)", x.hangs(3, true), 17);
        is("hangs(0, true), a HOLE itself", x.hangs(0, true), 1);
        is("hangs(6, true)", x.hangs(6, true), BEYOND);
        is("hangs(-1, false)", x.hangs(-1, false), BEYOND);
        is("quick(0, 2)", x.quick(0, 2), 11);
        is("quick(0, 3)", x.quick(0, 3), 16);
        is("quick(4, 2), by an OVERFLOW", x.quick(4, 2), 11);
        is("quick(5, 2), by a BLIND one", x.quick(5, 2), NONE);
        is("quick(2, 0)", x.quick(2, 0), NONE);
        is("quick(2, 2)", x.quick(2, 2), 0);
        is("quick(6, 0)", x.quick(6, 0), BEYOND);
        is("quick(0, -1)", x.quick(0, -1), BEYOND);
    }

    private static void floodAndFade() {
        HoleWater x = ladder();
        is("flood(false)", x.flood(false), 0);
        is("flood(true)", x.flood(true), 0);
        is("flood(true)", x.flood(true), 1);
        is("flood(false)", x.flood(false), 1);
        is("fade(0, 99)", x.fade(0, 99), 0);
        is("fade(0, 0)", x.fade(0, 0), 99);
        is("fade(3, 7)", x.fade(3, 7), 0);
        is("fade(3, 7)", x.fade(3, 7), 7);
        is("fade(-1, 0)", x.fade(-1, 0), BEYOND);
        is("fade(4, 0)", x.fade(4, 0), BEYOND);
        is("fade(0, -1)", x.fade(0, -1), BEYOND);
        is("fade(0, 100)", x.fade(0, 100), BEYOND);
        x.way(0, 2, 5, 1);
        x.fade(1, 3);
        x.fade(2, 20);
        x.fade(3, 99);
        for (int colour = 0; colour < 4; colour++) {
            x.put(0, colour, 99);
        }
        x.hours(6);
        is("stuff(0, 3) of 99 by 0", x.stuff(0, 3), 0);
        is("stuff(1, 3) of 99 by 15", x.stuff(1, 3), 14);
        is("stuff(2, 3) of 99 by 100", x.stuff(2, 3), 99);
        is("stuff(3, 3) of 99 by 100 at most", x.stuff(3, 3), 99);
        is("stuff(1, 5)", x.stuff(1, 5), 85);
    }

    private static void hoursPass() {
        HoleWater x = ladder();
        is("hours(0)", x.hours(0), BEYOND);
        is("hours(61)", x.hours(61), BEYOND);
        is("hours(MIN)", x.hours(MIN), BEYOND);
        is("hours(MAX)", x.hours(MAX), BEYOND);
        is("hours(1)", x.hours(1), 1);
        for (int i = 0; i < 16; i++) {
            is("hours(60)", x.hours(60), 61 + 60 * i);
        }
        is("hours(39)", x.hours(39), STATE);
        is("count(0)", x.count(0), 961);
        is("hours(38)", x.hours(38), 999);
        is("hours(1)", x.hours(1), STATE);
        is("jointIs(0, 3), all stays", x.jointIs(0, 3), 9990);
        is("spill beyond 999", x.spill(0, 1, 3, 60), 0);
    }

    private static void waterIsShared() {
        HoleWater x = ladder();
        Due.text(x, 0, "37");
        x.way(0, 2, 1, 1);
        x.way(3, 2, 1, 20);
        x.way(3, 3, 1, 12);
        x.way(4, 3, 1, 9);
        x.way(2, 1, 1, 1);
        x.hours(1);
        // 37: the OVERFLOWS get 17, and 8 of the 20 left; of 12 the others get 4 each
        is("wayIs(0, 6)", x.wayIs(0, 6), 4);
        is("wayIs(1, 6)", x.wayIs(1, 6), 17);
        is("wayIs(2, 6)", x.wayIs(2, 6), 8);
        is("wayIs(3, 6)", x.wayIs(3, 6), 4);
        is("wayIs(4, 6)", x.wayIs(4, 6), 4);
        is("jointIs(0, 3)", x.jointIs(0, 3), 0);
        Due.text(x, 0, "11");
        x.hours(1);
        // 11: none for the OVERFLOWS; 4, 4, 3 for the others
        is("wayIs(0, 6)", x.wayIs(0, 6), 4);
        is("wayIs(1, 6)", x.wayIs(1, 6), 0);
        is("wayIs(2, 6)", x.wayIs(2, 6), 0);
        is("wayIs(3, 6), 4 HELD less 1", x.wayIs(3, 6), 4 + 3);
        is("wayIs(4, 6), of two HOURS", x.wayIs(4, 6), 4 + 3);
        is("jointIs(2, 4)", x.jointIs(2, 4), 4 + 17);
        is("jointIs(3, 4)", x.jointIs(3, 4), 8 + 1);
        is("jointIs(3, 5)", x.jointIs(3, 5), 9);
        HoleWater y = ladder();
        y.way(3, 2, 2, 25);
        y.hours(3);
        is("only an OVERFLOW: the rest stays", y.jointIs(0, 3), 25);
        is("only an OVERFLOW: what is above", y.wayIs(0, 6), 5);
        y.hours(3);
        is("its WATER comes OUT", y.jointIs(2, 5), 15);
    }

    private static void grainsAreShared() {
        HoleWater x = ladder();
        Due.text(x, 0, "30");
        x.way(3, 2, 1, 11);
        x.put(0, 0, 100);
        x.hours(1);
        // 19 of 30 go: 63 of the 100 go, 37 stay with the WATER
        is("grains(0, 0)", x.grains(0, 0), 37);
        is("stuff(0, 1)", x.stuff(0, 1), 100);
        x.hours(1);
        is("out(2, 0, 1)", x.out(2, 0, 1), 63);
        // 41 there now, 30 go: 37 * 30 / 41 is 27
        is("grains(0, 0)", x.grains(0, 0), 10);
        HoleWater y = ladder();
        y.put(0, 1, 9);
        Due.text(y, 0, "0");
        y.way(0, 2, 1, 1);
        y.hours(2);
        is("no WATER, none goes", y.grains(0, 1), 9);
        Due.text(y, 0, "1");
        y.hours(2);
        is("some WATER, all go", y.stuff(1, 5), 9);
        is("grains(4, 0)", y.grains(4, 0), BEYOND);
        is("grains(-1, 0)", y.grains(-1, 0), BEYOND);
        is("grains(0, 4)", y.grains(0, 4), BEYOND);
        is("grains(0, -1)", y.grains(0, -1), BEYOND);
    }

    private static void leftOverGoesWithTheMost() {
        HoleWater x = ladder();
        x.way(0, 1, 1, 1);
        x.way(0, 2, 1, 1);
        x.way(0, 3, 1, 1);
        x.put(0, 0, 8);
        x.hours(2);
        // of 10 they get 4, 3, 3: 3, 2, 2 of the 8, and 1 more for the first
        is("grains(1, 0)", x.grains(1, 0), 4);
        is("out(2, 0, 1)", x.out(2, 0, 1), 2);
        is("out(3, 0, 1)", x.out(3, 0, 1), 2);
        HoleWater y = ladder();
        Due.text(y, 0, "9");
        y.way(0, 1, 1, 1);
        y.way(0, 2, 1, 1);
        y.way(0, 3, 1, 1);
        y.put(0, 0, 8);
        y.hours(2);
        is("alike: the first gets what is left over", y.grains(1, 0), 4);
        HoleWater z = ladder();
        Due.text(z, 0, "9");
        z.way(0, 1, 1, 1);
        z.way(3, 2, 1, 4);
        z.put(0, 0, 1);
        z.hours(2);
        is("an OVERFLOW with more", z.out(2, 0, 1), 1);
        HoleWater s = ladder();
        s.way(2, 2, 1, 3);
        s.way(0, 3, 1, 1);
        s.put(0, 0, 7);
        s.hours(1);
        // 3 and 3, 1 left over goes into the SIEVE ahead of what is STUCK: 4 by 3
        is("stuff(0, 2)", s.stuff(0, 2), 1);
        s.hours(2);
        is("out(2, 0, 1)", s.out(2, 0, 1), 3);
        HoleWater big = ladder();
        Due.text(big, 0, "999");
        big.hours(60);
        big.way(0, 2, 1, 1);
        for (int i = 0; i < 10; i++) {
            big.put(0, 0, 9999);
        }
        big.hours(2);
        is("GRAINS times WATER above an int", big.out(2, 0, 1), 99990);
        is("WATER of 61 HOURS", big.jointIs(2, 4), 999 * 61);
    }

    private static void poolsHold() {
        HoleWater x = ladder();
        x.way(4, 2, 2, 4);
        x.put(0, 0, 10);
        x.hours(1);
        Due.text(x, 0, "0");
        x.hours(1);
        is("wayIs(0, 6), under way", x.wayIs(0, 6), 10);
        // HELD 10 WATER, 10 GRAINS: 3, 2, 2, 1, 1, 1
        int[] due = {3, 2, 2, 1, 1, 1, 0};
        for (int i = 0; i < due.length; i++) {
            x.hours(1);
            is("jointIs(2, 4), HOUR " + i, x.jointIs(2, 4), due[i]);
            is("out(2, 0, 1), HOUR " + i, x.out(2, 0, 1), due[i]);
        }
        is("wayIs(0, 6), all came", x.wayIs(0, 6), 0);
        HoleWater y = ladder();
        y.way(4, 2, 1, 5);
        y.put(0, 0, 10);
        y.hours(1);
        Due.text(y, 0, "0");
        y.hours(1);
        is("N divides it", y.out(2, 0, 1), 2);
        HoleWater z = ladder();
        for (int i = 0; i < 23; i++) {
            z.way(5, 103, 1, 1);
        }
        is("the last of 24 WAYS is a POOL", z.way(4, 2, 1, 2), 23);
        z.hours(2);
        is("5 of 10 HELD", z.jointIs(2, 4), 5);
        z.hours(1);
        is("8 of 15 HELD", z.jointIs(2, 4), 8);
        is("wayIs(23, 6)", z.wayIs(23, 6), 7 + 10);
        is("stuff(0, 1) has what is HELD", y.stuff(0, 1), 8);
        is("count(11) has what is HELD", y.count(11), 8);
    }

    private static void blindEnds() {
        HoleWater x = ladder();
        x.way(5, 2, 1, 4);
        x.put(0, 2, 11);
        x.hours(3);
        is("stuff(2, 2)", x.stuff(2, 2), 2);
        is("stuff(2, 4)", x.stuff(2, 4), 9);
        is("count(10)", x.count(10), 30);
        is("wayIs(0, 6)", x.wayIs(0, 6), 0);
        is("jointIs(2, 5)", x.jointIs(2, 5), 0);
        HoleWater y = ladder();
        y.way(2, 2, 1, 4);
        y.put(0, 2, 11);
        y.hours(3);
        is("SIEVE: stuff(2, 2)", y.stuff(2, 2), 2);
        is("SIEVE: stuff(2, 4)", y.stuff(2, 4), 0);
        is("SIEVE: stuff(2, 5)", y.stuff(2, 5), 9);
        is("SIEVE: count(10)", y.count(10), 0);
    }

    private static void puts() {
        HoleWater x = ladder();
        is("put(4, 0, 1)", x.put(4, 0, 1), BEYOND);
        is("put(-1, 0, 1)", x.put(-1, 0, 1), BEYOND);
        is("put(0, -1, 1)", x.put(0, -1, 1), BEYOND);
        is("put(0, 4, 1)", x.put(0, 4, 1), BEYOND);
        is("put(0, 0, 0)", x.put(0, 0, 0), BEYOND);
        is("put(0, 0, 10000)", x.put(0, 0, 10000), BEYOND);
        is("put(1, 0, 0)", x.put(1, 0, 0), BEYOND);
        is("put(1, 0, 1)", x.put(1, 0, 1), KIND);
        is("put(2, 0, 1)", x.put(2, 0, 1), KIND);
        is("put(3, 0, 1)", x.put(3, 0, 1), KIND);
        x.hours(5);
        is("put(0, 3, 9999)", x.put(0, 3, 9999), 0);
        is("grains(0, 3)", x.grains(0, 3), 9999);
        for (int i = 1; i < 40; i++) {
            is("put(0, 1, 1)", x.put(0, 1, 1), i);
        }
        is("put, 41st", x.put(0, 1, 1), FULL);
        is("put, 41st, no HOLE", x.put(1, 1, 1), KIND);
        int[] due = {0, 3, 9999, 5};
        for (int what = 0; what < 4; what++) {
            is("putIs(0, " + what + ")", x.putIs(0, what), due[what]);
        }
        is("putIs(0, 4)", x.putIs(0, 4), BEYOND);
        is("putIs(0, -1)", x.putIs(0, -1), BEYOND);
        is("putIs(40, 0)", x.putIs(40, 0), BEYOND);
        is("putIs(-1, 0)", x.putIs(-1, 0), BEYOND);
    }

    private static void poursFromSheets() {
        HoleWater x = ladder();
        is("pours of a missing one", x.pours(0, 0, 0, 0, 0), NONE);
        is("pours in no HOLE of a missing one", x.pours(1, 0, 0, 0, 0), KIND);
        x.sheet(0, 32, 6);
        x.place(0, 0, 5);
        x.place(0, 1, 10000);
        x.place(0, 2, 9999);
        x.place(0, 3, -7);
        x.place(0, 4, 1);
        is("pours(4, ..)", x.pours(4, 0, 0, 0, 1), BEYOND);
        is("pours(.., 4, ..)", x.pours(0, 4, 0, 0, 1), BEYOND);
        is("pours(.., sheet 4, ..)", x.pours(0, 0, 4, 0, 1), BEYOND);
        is("pours(.., sheet -1, ..)", x.pours(0, 0, -1, 0, 1), BEYOND);
        is("pours(.., -1)", x.pours(0, 0, 0, 0, -1), BEYOND);
        is("pours(.., 10)", x.pours(0, 0, 0, 0, 10), BEYOND);
        is("pours none, from nowhere", x.pours(0, 0, 0, 77, 0), 0);
        is("pours 6", x.pours(0, 0, 0, 0, 6), 3);
        is("putIs(1, 2)", x.putIs(1, 2), 9999);
        is("grains(0, 0)", x.grains(0, 0), 10005);
        is("pours beyond the end", x.pours(0, 1, 0, 4, 3), BEYOND);
        is("those ahead were put", x.grains(0, 1), 1);
        is("pours(.., -1, 2)", x.pours(0, 1, 0, -1, 2), BEYOND);
        is("pours(.., MAX, 9)", x.pours(0, 1, 0, MAX, 9), BEYOND);
        is("pours(.., MIN, 9)", x.pours(0, 1, 0, MIN, 9), BEYOND);
        is("count(3)", x.count(3), 4);
        for (int i = 4; i < 39; i++) {
            x.put(0, 3, 1);
        }
        is("pours with room for 1", x.pours(0, 2, 0, 0, 3), FULL);
        is("the one ahead was put", x.grains(0, 2), 5);
        is("pours what is left out needs no room", x.pours(0, 2, 0, 1, 1), 0);
        is("told(4)", x.told(4), 1);
        HoleWater y = ladder();
        y.sheet(3, 8, 2);
        y.place(3, 0, 200);
        y.place(3, 1, 127);
        is("8 bits, as a Java byte", y.pours(0, 0, 3, 0, 2), 1);
        is("stuff(0, 0)", y.stuff(0, 0), 127);
    }

    private static void stuffAddsUp() {
        HoleWater x = ladder();
        x.way(2, 1, 2, 7);
        x.way(0, 2, 4, 7);
        x.way(5, 3, 4, 7);
        x.way(0, 103, 4, 7);
        x.way(4, 102, 1, 3);
        x.fade(1, 5);
        x.put(0, 0, 4000);
        x.put(0, 1, 5000);
        x.put(0, 2, 6000);
        x.put(0, 3, 7000);
        for (int i = 0; i < 14; i++) {
            for (int colour = 0; colour < 4; colour++) {
                int sum = 0;
                for (int what = 1; what < 7; what++) {
                    sum += x.stuff(colour, what);
                }
                is("all GRAINS of " + colour + ", HOUR " + i, sum, x.stuff(colour, 0));
            }
            int water = x.count(10) + x.count(11) + x.jointIs(2, 5) + x.jointIs(3, 5);
            is("all WATER, HOUR " + i, water, 10 * i);
            x.hours(1);
        }
        is("stuff(1, 0)", x.stuff(1, 0), 5000);
        // 3 ways get 4, 3, 3 of 10: 2000 into the SIEVE, 1500, 1500 into the BLIND one
        is("stuff(1, 2)", x.stuff(1, 2), 285 + 214);
        is("stuff(1, 4)", x.stuff(1, 4), 1286);
        is("stuff(1, 7)", x.stuff(1, 7), BEYOND);
        is("stuff(1, -1)", x.stuff(1, -1), BEYOND);
        is("stuff(4, 0)", x.stuff(4, 0), BEYOND);
        is("stuff(-1, 0)", x.stuff(-1, 0), BEYOND);
    }

    private static void outs() {
        HoleWater x = ladder();
        x.way(0, 2, 1, 1);
        x.way(0, 3, 1, 1);
        is("out(0, 0, 1)", x.out(0, 0, 1), KIND);
        is("out(1, 0, 1)", x.out(1, 0, 1), KIND);
        is("out(0, 0, 25)", x.out(0, 0, 25), BEYOND);
        is("out(4, 0, 1)", x.out(4, 0, 1), BEYOND);
        is("out(2, 4, 1)", x.out(2, 4, 1), BEYOND);
        is("out(2, 0, 0)", x.out(2, 0, 0), BEYOND);
        is("out(2, 0, 24), there was none", x.out(2, 0, 24), 0);
        x.put(0, 0, 50);
        x.hours(1);
        x.put(0, 0, 31);
        x.hours(2);
        is("out(2, 0, 1)", x.out(2, 0, 1), 16);
        is("out(3, 0, 1)", x.out(3, 0, 1), 15);
        is("out(2, 0, 2)", x.out(2, 0, 2), 25);
        is("out(2, 0, 3)", x.out(2, 0, 3), 0);
        x.hours(22);
        is("out(2, 0, 24)", x.out(2, 0, 24), 25);
        is("out(2, 0, 23)", x.out(2, 0, 23), 16);
        x.hours(1);
        is("out(2, 0, 24)", x.out(2, 0, 24), 16);
        is("out(2, 0, 1)", x.out(2, 0, 1), 0);
    }

    private static void spills() {
        HoleWater x = ladder();
        x.way(0, 1, 2, 1);
        x.way(0, 102, 3, 1);
        x.put(0, 3, 500);
        x.hours(1);
        x.put(0, 3, 800);
        is("first(0, 7, 2)", x.first(0, 7, 2), 6);
        is("spill(0, 7, 2, 5)", x.spill(0, 7, 2, 5), 0);
        is("spill(0, 7, 2, 6), none of it anywhere else", x.spill(0, 7, 2, 6), 7);
        is("spill(0, 9999, 2, 60)", x.spill(0, 9999, 2, 60), 9999);
        is("first(0, 7, 3)", x.first(0, 7, 3), NONE);
        is("spill(0, 7, 3, 60)", x.spill(0, 7, 3, 60), 0);
        is("nothing changes: NOW", x.count(0), 1);
        is("nothing changes: GRAINS", x.grains(0, 3), 800);
        is("nothing changes: PUTS", x.count(3), 2);
        is("nothing changes: stuff", x.stuff(3, 0), 1300);
        is("spill(4, ..)", x.spill(4, 7, 2, 6), BEYOND);
        is("spill(.., 0, ..)", x.spill(0, 0, 2, 6), BEYOND);
        is("spill(.., 10000, ..)", x.spill(0, 10000, 2, 6), BEYOND);
        is("spill(.., 4, ..)", x.spill(0, 7, 4, 6), BEYOND);
        is("spill(.., 0)", x.spill(0, 7, 2, 0), BEYOND);
        is("spill(.., 61)", x.spill(0, 7, 2, 61), BEYOND);
        is("spill in no HOLE, 61", x.spill(1, 7, 2, 61), BEYOND);
        is("spill in no HOLE", x.spill(1, 7, 2, 6), KIND);
        is("spill at no SPRING", x.spill(0, 7, 1, 6), KIND);
        is("first(4, ..)", x.first(4, 7, 2), BEYOND);
        is("first(.., 0, ..)", x.first(0, 0, 2), BEYOND);
        is("first(.., -1)", x.first(0, 7, -1), BEYOND);
        is("first in no HOLE", x.first(2, 7, 2), KIND);
        is("first at no SPRING", x.first(0, 7, 0), KIND);
        HoleWater y = ladder();
        y.way(0, 1, 20, 1);
        y.way(2, 102, 20, 2);
        is("first in just 61", y.first(0, 9, 2), NONE);
        y.way(0, 2, 20, 1);
        y.way(2, 3, 20, 1);
        is("first, all STUCK", y.first(0, 9, 3), NONE);
        is("first in 21", y.first(0, 9, 2), 21);
        HoleWater z = ladder();
        z.way(0, 1, 19, 1);
        z.way(2, 102, 20, 2);
        is("first in just 60", z.first(0, 9, 2), 60);
        z.fade(3, 99);
        is("first, all FADED", z.first(0, 9, 2), NONE);
        for (int i = 0; i < 16; i++) {
            z.hours(60);
        }
        z.hours(39);
        z.fade(3, 0);
        is("HOURS beyond 999 are as others", z.first(0, 9, 2), 60);
        Due.text(z, 0, "d-41");
        is("HOURS beyond 999: no WATER till 1008", z.first(0, 9, 2), NONE);
        HoleWater r = ladder();
        r.way(0, 2, 1, 1);
        Due.text(r, 0, "d-40");
        for (int i = 0; i < 16; i++) {
            r.hours(60);
        }
        r.hours(39);
        is("HOURS beyond 999: from HOUR 984 on", r.first(0, 9, 2), 2);
        Due.text(r, 0, "d-41");
        is("HOURS beyond 999: from HOUR 1008 on", r.first(0, 9, 2), 11);
    }

    private static void tapes() {
        HoleWater x = ladder();
        is("feed(.., 0)", x.feed(1, 0), BEYOND);
        is("feed(.., 9)", x.feed(1, 9), BEYOND);
        is("feed(.., MIN)", x.feed(1, MIN), BEYOND);
        for (int i = 1; i <= 7; i++) {
            is("feed 8", x.feed(0x2B312B312B312B31L, 8), 8 * i);
        }
        is("feed 5 above 60", x.feed(0x2B312B312BL, 5), FULL);
        is("count(6)", x.count(6), 56);
        is("feed 9 of no room", x.feed(0, 9), BEYOND);
        is("feed 4", x.feed(0x312B312BL, 4), 60);
        is("feed 1 above 60", x.feed(1, 1), FULL);
        is("text(-1)", x.text(-1), BEYOND);
        is("text(2)", x.text(2), BEYOND);
        is("count(6), THE TAPE stays", x.count(6), 60);
        is("two signs in a row", x.text(0), -10 - 56);
        is("count(6), THE TAPE is empty", x.count(6), 0);
        is("an empty TEXT", x.text(0), -10);
        is("bytes above 127", Due.text(x, 0, "1" + (char) 200), -11);
        is("a byte 0", Due.text(x, 0, "1" + (char) 0), -11);
    }

    private static void faults() {
        HoleWater x = ladder();
        String[] texts = {"1", "999", "1000", "h", "d+k*f", "w", "1+", "1+*", "(1", "()", "((((1))))", "(((((1", ")",
            "1?", "1?1", "1?1<", "1?1<2", "1?1<2&", "1?1<2&3>2", "1?1<2<3", "1?1<2?", "1<2", "1&", "1;", "1;;", "1;2;3;4;5;6",
            "1;2;3;4;5;6;", "1;2;3;4;5;6;7", "1 +2", "-1", "1--1", "h1", "1h", "hh", "(h)(", "(h)*(d)", "1?(1<2)", "1?1=2;3?4=5&6=7;8",
            "1?h", "1?h=", "H", "12h", "((h)", "((h)))", "1?((((1+2))))=(((((", "1=", "?", ";1", "1?1h=2", "1?h(1)=2", "1/0"};
        int[] due = {1, 1, -13, 1, 1, -10, -12, -12, -12, -11, 1, -14, -10,
            -12, -13, -14, 1, -16, 1, -15, -15, -11, -11, -12, -12, 6,
            -21, -21, -11, -10, -12, -11, -11, -11, -13, 1, -14, 3,
            -13, -14, -10, -12, -14, -15, -28, -11, -10, -10, -13, -13, 1};
        for (int i = 0; i < texts.length; i++) {
            is("text \"" + texts[i] + "\"", Due.text(x, 0, texts[i]), due[i]);
        }
        is("rain(0) by the latest TEXT", x.rain(0), 0);
        Due.text(x, 0, "77");
        is("a TEXT with a FAULT", Due.text(x, 0, "78+"), -13);
        is("the one ahead stays", x.rain(0), 77);
        is("names of the other USE", Due.text(x, 1, "w+c+s+h"), -16);
        is("names of the other USE", Due.text(x, 0, "h+d+k+f+s"), -18);
        is("too early at 60", Due.text(x, 0, "1+".repeat(30)), -70);
        is("60 bytes", Due.text(x, 0, "11" + "+1".repeat(29)), 1);
        is("rain(0)", x.rain(0), 40);
    }

    private static void textsTell() {
        HoleWater x = ladder();
        x.joint(0, 1, 99);
        is("rain(0) without a TEXT", x.rain(0), 10);
        is("rain(1)", x.rain(1), KIND);
        is("rain(2)", x.rain(2), KIND);
        is("rain(5)", x.rain(5), BEYOND);
        is("rain(-1)", x.rain(-1), BEYOND);
        String[] texts = {"2+3*4", "2*3+4", "20-5-4", "20/3/2", "2*(3+4)", "7/2*2", "7/0", "(3-7)/2+9", "3-7", "999+1", "0*5",
            "007", "1?1>2;2?2=2;3", "1?1>2;2?2<2", "1?1<2&2<1;5", "1?0=0&3>2;5", "999*999*999*999/999/999", "(0-7)/2+100",
            "((((9))))-(1-(2-(3-(4))))",
            "1?2>2;8", "1?2<2;8", "1?2=3;8", "1?3=2;8"};
        int[] due = {14, 10, 11, 3, 14, 6, 0, 7, 0, 999, 0,
            7, 2, 0, 5, 1, 0, 97, 11,
            8, 8, 8, 8};
        due[16] = Math.max(0, Math.min(999, 999 * 999 * 999 * 999 / 999 / 999));
        for (int i = 0; i < texts.length; i++) {
            Due.text(x, 0, texts[i]);
            is("\"" + texts[i] + "\" tells", x.rain(0), due[i]);
        }
        Due.text(x, 0, "h*100+d*10+k+f*500");
        is("HOUR 0", x.rain(0), 0);
        is("HOUR 0, JOINT 4", x.rain(4), 4);
        x.hours(51);
        is("HOUR 51", x.rain(4), 324);
        x.flood(true);
        is("HOUR 51 in FLOOD", x.rain(4), 824);
        Due.text(x, 0, "5?f=1&h<4;6?d>1;7");
        is("first CASE", x.rain(0), 5);
        x.hours(1);
        is("second CASE", x.rain(0), 6);
        int was = x.jointIs(0, 3);
        x.hours(1);
        is("RAIN comes as WATER", x.jointIs(0, 3) - was, 6);
    }

    private static void seenTexts() {
        HoleWater x = ladder();
        x.way(0, 2, 1, 1);
        is("seen(2, 0, 0) without", x.seen(2, 0, 0), 5);
        is("seen(3, 0, 0)", x.seen(3, 0, 0), KIND);
        is("seen(0, 0, 0)", x.seen(0, 0, 0), KIND);
        is("seen(4, 0, 0)", x.seen(4, 0, 0), BEYOND);
        is("seen(2, 4, 0)", x.seen(2, 4, 0), BEYOND);
        is("seen(2, 0, 2)", x.seen(2, 0, 2), BEYOND);
        is("seen(2, 0, -1)", x.seen(2, 0, -1), BEYOND);
        is("seen(0, 0, 2)", x.seen(0, 0, 2), BEYOND);
        Due.text(x, 1, "w*100+c*10+s");
        is("seen(2, 0, 0), at least 1", x.seen(2, 0, 0), 1);
        is("seen(2, 3, 1)", x.seen(2, 3, 1), 31);
        x.hours(2);
        is("seen(2, 2, 1)", x.seen(2, 2, 1), 1021);
        Due.text(x, 1, "999*999");
        is("seen, at most 9999", x.seen(2, 0, 0), 9999);
        is("rain has its own TEXT", x.rain(0), 10);
    }

    private static void bottlesAndBags() {
        HoleWater x = ladder();
        x.way(0, 2, 1, 1);
        is("bottle(4, 0)", x.bottle(4, 0), BEYOND);
        is("bottle(2, 4)", x.bottle(2, 4), BEYOND);
        is("bottle(3, 4)", x.bottle(3, 4), BEYOND);
        is("bottle(3, 0)", x.bottle(3, 0), KIND);
        is("bottle(0, 0)", x.bottle(0, 0), KIND);
        is("bag(2, 0, 0)", x.bag(2, 0, 0), BEYOND);
        is("bag(2, 0, 25)", x.bag(2, 0, 25), BEYOND);
        is("bag(3, 0, 25)", x.bag(3, 0, 25), BEYOND);
        is("bag(3, 0, 1)", x.bag(3, 0, 1), KIND);
        is("bag(-1, 0, 1)", x.bag(-1, 0, 1), BEYOND);
        is("count(4)", x.count(4), 0);
        x.put(0, 0, 4);
        x.hours(1);
        x.put(0, 0, 1);
        x.put(0, 1, 5);
        x.hours(1);
        is("bottle(2, 0) of 4", x.bottle(2, 0), 0);
        x.hours(1);
        is("bottle(2, 1) of 5", x.bottle(2, 1), 5);
        is("bottle(2, 0) of 1", x.bottle(2, 0), 0);
        is("bag(2, 0, 1) of 1", x.bag(2, 0, 1), 0);
        x.flood(true);
        is("bag(2, 0, 2) of 5", x.bag(2, 0, 2), 1);
        is("bag(2, 0, 24) of 5", x.bag(2, 0, 24), 1);
        int[] bag = {2, 0, 3, 2, 1, 1};
        int[] bottle = {2, 0, 2, 0, 0, 0};
        for (int what = 0; what < 6; what++) {
            is("lookIs(4, " + what + ")", x.lookIs(4, what), bag[what]);
            is("lookIs(0, " + what + ")", x.lookIs(0, what), bottle[what]);
        }
        is("lookIs(0, 6)", x.lookIs(0, 6), BEYOND);
        is("lookIs(0, -1)", x.lookIs(0, -1), BEYOND);
        is("lookIs(6, 0)", x.lookIs(6, 0), BEYOND);
        is("lookIs(-1, 0)", x.lookIs(-1, 0), BEYOND);
        is("count(5)", x.count(5), 3);
        Due.text(x, 1, "6-s*5");
        is("SEEN of a BOTTLE", x.bottle(2, 1), 0);
        is("SEEN of a BAG", x.bag(2, 0, 1), 1);
        for (int i = 8; i < 60; i++) {
            x.bottle(2, 3);
        }
        is("count(4)", x.count(4), 60);
        is("bottle, 61st", x.bottle(2, 0), FULL);
        is("bag, 61st", x.bag(2, 0, 1), FULL);
        is("bag, 61st, no SPRING", x.bag(1, 0, 1), KIND);
        is("bag, 61st, beyond", x.bag(2, 0, 0), BEYOND);
    }

    /** HOLES 0, 1 and SPRINGS 2, 3: 0 goes to 2 and 3, 1 goes to 3, in an HOUR each. */
    private static HoleWater pairs() {
        HoleWater x = new HoleWater();
        x.joint(0, 10, 90);
        x.joint(0, 30, 80);
        x.joint(2, 20, 10);
        x.joint(2, 40, 5);
        x.way(0, 2, 1, 1);
        x.way(0, 3, 1, 1);
        x.way(0, 103, 1, 1);
        return x;
    }

    private static void looksSay() {
        HoleWater x = pairs();
        is("joined(4, 2, 0)", x.joined(4, 2, 0), BEYOND);
        is("joined(0, -1, 0)", x.joined(0, -1, 0), BEYOND);
        is("joined(0, 2, 3)", x.joined(0, 2, 3), BEYOND);
        is("joined(0, 2, -1)", x.joined(0, 2, -1), BEYOND);
        is("joined(2, 0, 3)", x.joined(2, 0, 3), BEYOND);
        is("joined(2, 3, 0)", x.joined(2, 3, 0), KIND);
        is("joined(0, 1, 0)", x.joined(0, 1, 0), KIND);
        is("never(4, 2)", x.never(4, 2), BEYOND);
        is("never(0, 1)", x.never(0, 1), KIND);
        x.bottle(2, 0);
        x.put(0, 0, 100);
        is("a LOOK ahead of the PUT", x.joined(0, 2, 0), 0);
        is("never, ahead of the PUT", x.never(0, 2), 0);
        x.bottle(2, 0);
        is("NOT YET", x.joined(0, 2, 0), 1);
        is("never(0, 2)", x.never(0, 2), 1);
        is("NOTHING of the other HOLE", x.joined(1, 2, 0), 0);
        x.hours(2);
        x.bottle(2, 0);
        is("SURE", x.joined(0, 2, 0), 3);
        is("never(0, 2)", x.never(0, 2), 1);
        x.put(1, 0, 100);
        is("a later PUT doesn't count", x.joined(0, 2, 0), 3);
        is("NOTHING still", x.joined(1, 2, 0), 0);
        x.bag(2, 0, 2);
        is("MAY of the other one", x.joined(1, 2, 0), 2);
        x.bag(3, 0, 2);
        is("MAY", x.joined(0, 3, 0), 2);
        is("MAY", x.joined(1, 3, 0), 2);
        x.flood(true);
        x.put(1, 1, 70);
        x.bottle(3, 1);
        is("all water", x.joined(1, 3, 0), 2);
        is("out of FLOOD", x.joined(1, 3, 1), 2);
        is("in FLOOD", x.joined(1, 3, 2), 1);
        x.hours(2);
        x.bottle(3, 1);
        is("in FLOOD", x.joined(1, 3, 2), 3);
        is("out of FLOOD", x.joined(1, 3, 1), 2);
        is("all water", x.joined(1, 3, 0), 3);
        is("in FLOOD, nothing", x.joined(0, 3, 2), 0);
        is("never(1, 3)", x.never(1, 3), 1);
    }

    private static void spans() {
        HoleWater x = pairs();
        is("span(4, 2, 0, 0)", x.span(4, 2, 0, 0), BEYOND);
        is("span(0, 2, 4, 0)", x.span(0, 2, 4, 0), BEYOND);
        is("span(0, 2, 0, 2)", x.span(0, 2, 0, 2), BEYOND);
        is("span(2, 0, 0, 2)", x.span(2, 0, 0, 2), BEYOND);
        is("span(2, 0, 0, 0)", x.span(2, 0, 0, 0), KIND);
        is("span, never put", x.span(0, 2, 0, 1), STATE);
        x.bottle(2, 0);
        x.hours(3);
        x.put(0, 0, 100);
        is("span, not SEEN", x.span(0, 2, 0, 1), NONE);
        is("span, put elsewhere", x.span(1, 2, 0, 1), STATE);
        x.hours(2);
        x.put(0, 1, 100);
        x.bottle(2, 0);
        is("span(0, 2, 0, 1)", x.span(0, 2, 0, 1), 2);
        is("span(0, 2, 0, 0), none since", x.span(0, 2, 0, 0), 0);
        x.bottle(2, 1);
        x.hours(1);
        x.bottle(2, 1);
        x.bottle(3, 1);
        x.hours(3);
        x.bag(2, 1, 9);
        x.bottle(2, 1);
        is("span(0, 2, 1, 1)", x.span(0, 2, 1, 1), 4);
        is("span(0, 2, 1, 0), the latest ahead", x.span(0, 2, 1, 0), 1);
        is("span(0, 3, 1, 0)", x.span(0, 3, 1, 0), NONE);
        x.put(0, 1, 1);
        is("span, put twice", x.span(0, 2, 1, 1), STATE);
        is("span, by PUT 0 and LOOK 1", x.span(0, 2, 0, 1), 2);
        HoleWater y = pairs();
        y.put(0, 0, 100);
        y.hours(1);
        y.bottle(2, 0);
        y.hours(1);
        y.bottle(2, 0);
        is("span, the latest ahead is LOOK 0", y.span(0, 2, 0, 0), 1);
        y.hours(1);
        y.bottle(2, 0);
        is("span, one that SAW nothing later", y.span(0, 2, 0, 0), 1);
        y.put(0, 0, 100);
        is("span, put twice, first as PUT 0", y.span(0, 2, 0, 1), STATE);
        HoleWater z = pairs();
        z.put(0, 0, 100);
        z.hours(2);
        z.bottle(2, 0);
        is("span, LOOK 0 SAW", z.span(0, 2, 0, 1), 2);
        x.put(1, 0, 1);
        is("span, put elsewhere too", x.span(0, 2, 0, 1), STATE);
    }

    private static void mustsInFlood() {
        HoleWater x = pairs();
        is("musts(0, 0)", x.musts(0, 0), NONE);
        is("musts(-1, 0)", x.musts(-1, 0), BEYOND);
        is("musts(0, 3)", x.musts(0, 3), BEYOND);
        is("musts(0, -1)", x.musts(0, -1), BEYOND);
        is("musts(MAX, 0)", x.musts(MAX, 0), NONE);
        x.put(0, 0, 100);
        x.put(1, 1, 100);
        x.bottle(2, 0);
        x.bottle(3, 0);
        x.bottle(3, 1);
        x.flood(true);
        x.hours(2);
        x.bottle(3, 1);
        is("musts(0, 0)", x.musts(0, 0), 1);
        x.bottle(3, 0);
        x.bottle(2, 0);
        int[][] due = {{0, 2, 80}, {0, 3, 85}, {1, 3, 75}};
        for (int i = 0; i < 3; i++) {
            for (int what = 0; what < 3; what++) {
                is("musts(" + i + ", " + what + ")", x.musts(i, what), due[i][what]);
            }
        }
        is("musts(3, 0)", x.musts(3, 0), NONE);
        x.flood(false);
        x.bottle(2, 0);
        is("SURE out of FLOOD, too", x.musts(0, 1), 3);
    }

    private static void crossing() {
        HoleWater x = new HoleWater();
        x.joint(0, 10, 90);
        x.joint(0, 50, 90);
        x.joint(2, 50, 10);
        x.joint(2, 10, 10);
        x.joint(2, 30, 50);
        x.joint(2, 90, 10);
        x.way(0, 2, 1, 1);
        x.way(0, 103, 1, 1);
        x.way(0, 104, 1, 1);
        x.way(0, 105, 1, 1);
        is("crosses(0, 2, 1, 3), not SURE", x.crosses(0, 2, 1, 3), 0);
        is("crosses(0, 2, 0, 3)", x.crosses(0, 2, 0, 3), BEYOND);
        is("crosses(0, 2, 1, 2)", x.crosses(0, 2, 1, 2), BEYOND);
        is("crosses(2, 2, 2, 3)", x.crosses(2, 2, 2, 3), BEYOND);
        is("crosses(0, 2, 6, 3)", x.crosses(0, 2, 6, 3), BEYOND);
        is("crosses(0, -1, 1, 3)", x.crosses(0, -1, 1, 3), BEYOND);
        is("crosses(0, 1, 6, 3)", x.crosses(0, 1, 6, 3), BEYOND);
        is("crosses(0, 2, 3, 4)", x.crosses(0, 2, 3, 4), KIND);
        is("crosses(0, 1, 1, 3)", x.crosses(0, 1, 1, 3), KIND);
        x.put(0, 0, 100);
        x.put(1, 1, 100);
        x.hours(2);
        x.bottle(2, 0);
        is("one SURE", x.crosses(0, 2, 1, 3), 0);
        for (int spring = 3; spring < 6; spring++) {
            x.bottle(spring, 1);
        }
        is("both SURE", x.crosses(0, 2, 1, 3), 1);
        is("the other way round", x.crosses(1, 3, 0, 2), 1);
        is("an end on the line", x.crosses(0, 2, 1, 4), 0);
        is("apart", x.crosses(0, 2, 1, 5), 0);
        x.image();
        x.bottle(3, 0);
        is("NOT YET mixes nothing", x.crosses(0, 2, 1, 3), 1);
        x.put(1, 0, 100);
        x.bottle(2, 0);
        is("MAY of b at x", x.crosses(0, 2, 1, 3), 0);
        is("MAY of a at y", x.crosses(1, 3, 0, 2), 0);
        linesThatTouch();
    }

    /** Two HOLES, two SPRINGS, SURE of 0 at 2 and of 1 at 3, at places with which the lines cross, touch, or don't. */
    private static void linesThatTouch() {
        int[][] places = {
            {10, 90, 60, 90, 60, 10, 10, 10, 1}, {10, 90, 10, 50, 10, 10, 60, 10, 0}, {10, 90, 60, 90, 10, 10, 10, 50, 0},
            {10, 90, 60, 90, 30, 50, 0, 10, 0}, {30, 50, 10, 90, 90, 10, 50, 10, 0}, {60, 90, 35, 50, 10, 10, 99, 10, 0}, {60, 90, 35, 50, 10, 10, 0, 10, 0},
            {10, 90, 10, 80, 10, 10, 10, 20, 0}, {10, 90, 10, 90, 60, 10, 70, 10, 0}, {10, 90, 60, 90, 30, 10, 30, 10, 0},
            {0, 99, 99, 99, 99, 0, 0, 0, 1}, {60, 90, 10, 90, 10, 10, 60, 10, 1}, {10, 30, 11, 99, 12, 20, 11, 0, 1},
            {10, 90, 60, 90, 34, 50, 10, 10, 0}, {10, 90, 60, 90, 36, 48, 10, 10, 1}, {60, 90, 10, 90, 35, 50, 60, 10, 0}};
        for (int[] p : places) {
            HoleWater x = new HoleWater();
            x.joint(0, p[0], p[1]);
            x.joint(0, p[2], p[3]);
            x.joint(2, p[4], p[5]);
            x.joint(2, p[6], p[7]);
            x.way(0, 2, 1, 1);
            x.way(0, 103, 1, 1);
            x.put(0, 1, 100);
            x.put(1, 2, 100);
            x.hours(2);
            is("SURE of 0 at 2, bottle", x.bottle(2, 1), 100);
            is("SURE of 1 at 3, bottle", x.bottle(3, 2), 100);
            String where = java.util.Arrays.toString(p);
            is("crosses of " + where, x.crosses(0, 2, 1, 3), p[8]);
            is("crosses, the other way round, of " + where, x.crosses(1, 3, 0, 2), p[8]);
        }
    }

    /** HOLES 0 .. 5 and SPRINGS 6 .. 11; each of the pairs (HOLE, SPRING) has a WAY. */
    private static HoleWater field(int[][] pairs) {
        HoleWater x = new HoleWater();
        for (int i = 0; i < 6; i++) {
            x.joint(0, i, 90);
        }
        for (int i = 0; i < 6; i++) {
            x.joint(2, i, 10);
        }
        for (int[] pair : pairs) {
            x.way(0, pair[0] * 100 + pair[1], 1, 1);
        }
        return x;
    }

    /** Looks of all SPRINGS of the first n for each HOLE's COLOUR, put 4 HOLES at a time with COLOURS 0 .. 3. */
    private static void lookAll(HoleWater x, int from, int holes, int springs) {
        for (int h = 0; h < holes; h++) {
            x.put(from + h, h, 9000);
        }
        x.hours(2);
        for (int h = 0; h < holes; h++) {
            for (int s = 6; s < 6 + springs; s++) {
                x.bottle(s, h);
            }
        }
    }

    private static void fewestRooms() {
        HoleWater x = field(new int[][] {{0, 6}, {0, 7}, {1, 6}, {1, 7}, {2, 8}});
        is("rooms, nothing SAID", x.rooms(31, 31 << 6), 0);
        is("rooms(-1, 0)", x.rooms(-1, 0), BEYOND);
        is("rooms(1 << 12, 0)", x.rooms(1 << 12, 0), BEYOND);
        is("rooms(0, MIN)", x.rooms(0, MIN), BEYOND);
        is("rooms(64, 1 << 12)", x.rooms(64, 1 << 12), BEYOND);
        is("rooms(64, 0)", x.rooms(64, 0), KIND);
        is("rooms(0, 1)", x.rooms(0, 1), KIND);
        is("rooms(63, 1)", x.rooms(63, 1), KIND);
        is("rooms(63, 0)", x.rooms(63, 0), FULL);
        is("rooms(0, 63 << 6)", x.rooms(0, 63 << 6), FULL);
        lookAll(x, 0, 3, 3);
        is("two with two, one with one", x.rooms(7, 7 << 6), 2);
        is("two with two", x.rooms(3, 7 << 6), 1);
        is("of SPRINGS that are not asked for", x.rooms(7, 2 << 6), 1);
        is("none of it", x.rooms(8, 7 << 6), 0);
        // a crown: each HOLE with all SPRINGS but its own; 4 of these need 4 rooms
        int[][] crown = new int[12][];
        int k = 0;
        for (int h = 0; h < 4; h++) {
            for (int s = 0; s < 4; s++) {
                if (h != s) {
                    crown[k++] = new int[] {h, 6 + s};
                }
            }
        }
        HoleWater y = field(crown);
        lookAll(y, 0, 4, 4);
        is("a crown of 4", y.rooms(15, 15 << 6), 4);
        is("a crown of 3", y.rooms(7, 7 << 6), 3);
        is("3 of 4", y.rooms(7, 15 << 6), 3);
        // a stair: HOLE h with SPRINGS 0 .. h
        int[][] stair = {{0, 6}, {1, 6}, {1, 7}, {2, 6}, {2, 7}, {2, 8}};
        HoleWater z = field(stair);
        lookAll(z, 0, 3, 3);
        is("a stair of 3", z.rooms(7, 7 << 6), 3);
        HoleWater m = field(new int[][] {{0, 6}, {1, 7}});
        m.put(0, 0, 100);
        m.put(1, 1, 100);
        m.hours(2);
        m.bottle(6, 0);
        m.bottle(7, 1);
        is("pairs of which NOTHING is SAID may be in one", m.rooms(3, 3 << 6), 1);
        m.bottle(7, 0);
        is("a pair that is NOT YET may not", m.rooms(3, 3 << 6), 2);
    }

    private static void townsAndNights() {
        HoleWater x = field(new int[][] {{0, 6}, {0, 7}, {1, 6}, {1, 7}, {2, 8}});
        is("town(12, true)", x.town(12, true), BEYOND);
        is("town(-1, true)", x.town(-1, true), BEYOND);
        is("town(0, true)", x.town(0, true), KIND);
        is("town(7, false)", x.town(7, false), 0);
        is("town(7, true)", x.town(7, true), 0);
        is("jointIs(7, 6)", x.jointIs(7, 6), 1);
        is("town(7, false)", x.town(7, false), 1);
        is("jointIs(7, 6)", x.jointIs(7, 6), 0);
        is("night(0, 1, 0)", x.night(0, 1, 0), BEYOND);
        is("night(5, 1, 0)", x.night(5, 1, 0), BEYOND);
        is("night(1, 0, 0)", x.night(1, 0, 0), BEYOND);
        is("night(1, 7, 0)", x.night(1, 7, 0), BEYOND);
        is("night(1, 1, 3)", x.night(1, 1, 3), BEYOND);
        is("night(1, 1, -1)", x.night(1, 1, -1), BEYOND);
        is("night(4, 6, 0)", x.night(4, 6, 0), 24);
        is("night(4, 6, 1)", x.night(4, 6, 1), 15);
        is("night(4, 6, 2)", x.night(4, 6, 2), 63 << 6);
        is("night(2, 1, 1)", x.night(2, 1, 1), 3);
        lookAll(x, 0, 3, 3);
        // NOTHING: HOLES 3, 4, 5 at all SPRINGS; 0, 1, 2 at SPRINGS 9, 10, 11
        is("night(4, 3, 0)", x.night(4, 3, 0), 12);
        is("night(4, 3, 1)", x.night(4, 3, 1), 15);
        is("night(4, 3, 2)", x.night(4, 3, 2), 7 << 9);
        is("night(4, 4, 0)", x.night(4, 4, 0), 15);
        is("night(4, 4, 1)", x.night(4, 4, 1), 1 + 8 + 16 + 32);
        is("night(4, 4, 2)", x.night(4, 4, 2), 64 + (7 << 9));
        is("night(3, 2, 1)", x.night(3, 2, 1), 7);
        x.town(7, true);
        is("HOLES 0 and 1 are known at a TOWN", x.night(1, 1, 1), 4);
        is("night(4, 4, 1)", x.night(4, 4, 1), 4 + 8 + 16 + 32);
        x.town(8, true);
        is("HOLE 2 too", x.night(1, 1, 1), 8);
        is("night(4, 1, 0)", x.night(4, 1, 0), NONE);
        is("night(3, 1, 0)", x.night(3, 1, 0), 3);
        HoleWater y = new HoleWater();
        is("night without HOLES", y.night(1, 1, 0), NONE);
        y.joint(0, 1, 90);
        is("night without SPRINGS", y.night(1, 1, 0), NONE);
        y.joint(2, 1, 10);
        is("night(1, 1, 0)", y.night(1, 1, 0), 1);
        is("night(1, 2, 0)", y.night(1, 2, 0), NONE);
        y.put(0, 0, 1);
        y.bottle(1, 0);
        y.town(1, true);
        is("NOT YET at a TOWN", y.night(1, 1, 0), 0);
        is("night(1, 1, 1)", y.night(1, 1, 1), 1);
        is("night(1, 1, 2)", y.night(1, 1, 2), 2);
    }

    private static void shares() {
        HoleWater x = pairs();
        is("share(4)", x.share(4), BEYOND);
        is("share(-1)", x.share(-1), BEYOND);
        x.put(0, 0, 100);
        x.put(1, 0, 30);
        is("share(0)", x.share(0), 130);
        x.hours(2);
        is("bottle(2, 0)", x.bottle(2, 0), 50);
        is("share(0)", x.share(0), 80);
        x.bottle(2, 0);
        is("share(0), each HOUR once", x.share(0), 80);
        x.bag(3, 0, 1);
        is("share(0), no BAGS", x.share(0), 80);
        x.bottle(3, 0);
        is("share(0)", x.share(0), 0);
        x.put(0, 0, 8);
        x.hours(2);
        is("bottle of 4", x.bottle(2, 0), 0);
        is("share(0), it SAW nothing", x.share(0), 8);
        Due.text(x, 1, "1");
        x.bottle(2, 0);
        is("share(0), another one SAW", x.share(0), 4);
        is("share(1)", x.share(1), 0);
    }

    private static void traceIs(HoleWater x, String voice, int... due) {
        is(voice + " count(8)", x.count(8), due.length);
        for (int i = 0; i < due.length; i++) {
            is(voice + " trace(" + i + ")", x.trace(i), due[i]);
        }
        is(voice + " trace(" + due.length + ")", x.trace(due.length), NONE);
    }

    private static void voices() {
        HoleWater x = ladder();
        for (int kind = 0; kind < 6; kind++) {
            x.way(kind, 1, 4, 9);
        }
        int[][] due = {{14, 28, 19, 2}, {13, 26, 17, 2 + 4}, {14, 28 ^ 9, (28 ^ 9) - 9, 2}, {22, 44, (44 - 9) * 3, 2 + 13},
            {14, 37, 9 - 37, 2}, {14, 28 ^ 9, (28 ^ 9) - 9, 14 - 2}};
        for (int w = 0; w < 6; w++) {
            for (int act = 0; act < 4; act++) {
                is("voice(" + w + ", " + act + ", 10)", x.voice(w, act, 10), due[w][act]);
            }
        }
        x.voice(0, 2, 1);
        traceIs(x, "WAY spills", 12, 11, 10);
        x.voice(1, 3, 1);
        traceIs(x, "OPEN tells", 21, 13, 20, 10);
        x.voice(2, 2, 1);
        traceIs(x, "SIEVE spills", 12, 30, 11, 10);
        x.voice(3, 2, 1);
        traceIs(x, "OVERFLOW spills", 41, 12, 11, 40, 20, 10);
        x.voice(3, 3, 1);
        traceIs(x, "OVERFLOW tells", 21, 13, 40, 20, 10);
        x.voice(4, 2, 1);
        traceIs(x, "POOL spills", 51, 12, 50, 11, 10);
        x.voice(5, 3, 1);
        traceIs(x, "BLIND tells", 60, 10, 13);
        is("voice(6, 0, 0)", x.voice(6, 0, 0), BEYOND);
        is("voice(-1, 0, 0)", x.voice(-1, 0, 0), BEYOND);
        is("voice(0, 4, 0)", x.voice(0, 4, 0), BEYOND);
        is("voice(0, -1, 0)", x.voice(0, -1, 0), BEYOND);
        traceIs(x, "after ERRORS", 60, 10, 13);
        is("trace(-1)", x.trace(-1), NONE);
        is("trace(MAX)", x.trace(MAX), NONE);
        is("runs wraps", x.voice(0, 0, MAX), MIN + 3);
        is("holds wraps", x.voice(0, 1, MAX - 4), -2);
        is("tells is cut", x.voice(0, 3, -9), -1);
        HoleWater y = ladder();
        for (int kind = 0; kind < 6; kind++) {
            y.way(kind, 1, 6, 6);
            is("PARTED " + kind, y.voice(kind, 3, 5), PARTED);
        }
        traceIs(y, "BLIND PARTED", 60, 10, 13);
        y.voice(3, 3, 5);
        traceIs(y, "OVERFLOW PARTED", 21, 13);
        is("told(6)", y.told(6), 7);
        is("voice(0, 2, 5)", y.voice(0, 2, 5), 16);
        y.way(0, 1, 2, 1);
        is("the least by -1", y.voice(6, 3, MIN), MIN);
    }

    private static void sheets() {
        HoleWater x = ladder();
        is("sheet(-1, 8, 1)", x.sheet(-1, 8, 1), BEYOND);
        is("sheet(4, 8, -1)", x.sheet(4, 8, -1), BEYOND);
        is("sheet(0, 7, -1)", x.sheet(0, 7, -1), BEYOND);
        is("sheet(0, 64, 1)", x.sheet(0, 64, 1), BEYOND);
        is("sheet(0, -8, 1)", x.sheet(0, -8, 1), BEYOND);
        is("sheet(0, 8, -1)", x.sheet(0, 8, -1), STATE);
        is("sheet(0, 8, 25)", x.sheet(0, 8, 25), BEYOND);
        is("sheet(0, 8, 24)", x.sheet(0, 8, 24), 1);
        is("sheet(1, 16, 0)", x.sheet(1, 16, 0), 1);
        is("place(0, 23, 1)", x.place(0, 23, 1), 1);
        is("place(0, 24, 1)", x.place(0, 24, 1), BEYOND);
        is("place(0, -1, 1)", x.place(0, -1, 1), BEYOND);
        is("place(1, 0, 1)", x.place(1, 0, 1), BEYOND);
        is("place(2, 0, 1)", x.place(2, 0, 1), NONE);
        is("place(2, -1, 1)", x.place(2, -1, 1), NONE);
        is("place(4, 0, 1)", x.place(4, 0, 1), BEYOND);
        is("place(-1, 0, 1)", x.place(-1, 0, 1), BEYOND);
        x.place(0, 0, 256 + 100);
        is("lowest 8 bits", x.pours(0, 0, 0, 0, 1), 1);
        is("grains(0, 0)", x.grains(0, 0), 100);
        is("sheet(0, 8, 24) again", x.sheet(0, 8, 24), 1);
        is("all 0", x.pours(0, 0, 0, 0, 9), 0);
        is("sheet(0, 0, 99)", x.sheet(0, 0, 99), 1);
        is("missing again", x.place(0, 0, 1), NONE);
        x.sheet(0, 32, 1);
        x.place(0, 0, 65536 + 7);
        is("32 bits hold it", x.pours(0, 1, 0, 0, 1), 0);
        x.sheet(0, 16, 1);
        x.place(0, 0, 65536 + 7);
        is("16 bits", x.pours(0, 1, 0, 0, 1), 1);
        is("grains(0, 1)", x.grains(0, 1), 7);
        is("an ERROR leaves it", x.sheet(0, 16, 25), BEYOND);
        is("an ERROR leaves it", x.pours(0, 1, 0, 0, 1), 1);
    }

    private static String pourAll(HoleWater x, int sheet, int n) {
        StringBuilder all = new StringBuilder();
        x.image();
        for (int i = 0; i < n; i++) {
            x.pours(0, 0, sheet, i, 1);
        }
        for (int i = 0; i < x.count(3); i++) {
            all.append(x.putIs(i, 2)).append(' ');
        }
        x.restore();
        return all.toString();
    }

    private static void moves() {
        HoleWater x = ladder();
        is("move of missing ones", x.move(0, 0, 1, 0, 0), NONE);
        is("move(-1, ..)", x.move(-1, 0, 1, 0, 0), BEYOND);
        is("move(.., 4, ..)", x.move(0, 0, 4, 0, 0), BEYOND);
        x.sheet(0, 8, 6);
        is("move to a missing one", x.move(0, 0, 1, 0, -1), NONE);
        x.sheet(1, 16, 6);
        is("move of unlike bits", x.move(0, 0, 1, 0, -1), KIND);
        x.sheet(1, 8, 4);
        for (int i = 0; i < 6; i++) {
            x.place(0, i, i + 1);
        }
        is("move(.., -1)", x.move(0, 0, 1, 0, -1), BEYOND);
        is("move(.., i -1, ..)", x.move(0, -1, 1, 0, 1), BEYOND);
        is("move(.., j -1, ..)", x.move(0, 0, 1, -1, 1), BEYOND);
        is("move 5 of 4", x.move(0, 0, 1, 0, 5), BEYOND);
        is("move from 5 on", x.move(0, 5, 1, 0, 2), BEYOND);
        is("move MAX", x.move(0, 1, 1, 1, MAX), BEYOND);
        is("move from MAX on", x.move(0, MAX, 1, 1, 1), BEYOND);
        is("move to MAX on", x.move(0, 1, 1, MAX, 1), BEYOND);
        is("move none", x.move(0, 6, 1, 4, 0), 0);
        is("move 3", x.move(0, 2, 1, 1, 3), 3);
        is("they came", pourAll(x, 1, 4).equals("3 4 5 ") ? 1 : 0, 1);
        is("they stay", pourAll(x, 0, 6).equals("1 2 3 4 5 6 ") ? 1 : 0, 1);
        is("move up in itself", x.move(0, 0, 0, 2, 4), 4);
        is("as they all were", pourAll(x, 0, 6).equals("1 2 1 2 3 4 ") ? 1 : 0, 1);
        is("move down in itself", x.move(0, 1, 0, 0, 5), 5);
        is("as they all were", pourAll(x, 0, 6).equals("2 1 2 3 4 4 ") ? 1 : 0, 1);
    }

    private static void images() {
        HoleWater x = pairs();
        Due.text(x, 0, "20");
        x.put(0, 0, 100);
        x.hours(3);
        x.bottle(2, 0);
        x.tell(4);
        Due.feed(x, "12");
        x.fade(1, 9);
        x.town(3, true);
        is("image()", x.image(), 1);
        x.joint(1, 1, 1);
        x.way(0, 2, 1, 1);
        x.sheet(0, 8, 3);
        x.voice(0, 0, 1);
        x.put(1, 1, 7);
        x.hours(5);
        x.bottle(3, 1);
        x.tell(5);
        x.flood(true);
        x.fade(1, 3);
        x.town(3, false);
        Due.text(x, 0, "");
        Due.text(x, 0, "30");
        Due.text(x, 1, "30");
        x.told(0);
        is("restore()", x.restore(), 3);
        int[] due = {3, 4, 3, 1, 1, 0, 2, 1, 1, 0, 0, -1};
        for (int what = 0; what < 11; what++) {
            is("restored count(" + what + ")", x.count(what), due[what]);
        }
        is("RAIN's TEXT", x.rain(0), 20);
        is("SEEN's TEXT", x.seen(2, 0, 0), 5);
        is("FADE", x.fade(1, 9), 9);
        is("TOWN", x.jointIs(3, 6), 1);
        is("THE TAPE", x.text(0), 1);
        is("THE TAPE was \"12\"", x.rain(0), 12);
        is("SHEETS stay", x.place(0, 2, 1), 1);
        is("THE TRACE stays", x.trace(0), 10);
        is("told stays", x.told(1), 1);
        is("it stays: restore()", x.restore(), 3);
        is("RAIN's TEXT again", x.rain(0), 20);
        x.hours(1);
        is("image()", x.image(), 2);
        x.hours(1);
        is("in place of the one ahead", x.restore(), 4);
        is("OUT of HOURS ahead", x.out(2, 0, 3), 50);
        HoleWater y = pairs();
        y.image();
        y.put(0, 2, 9);
        y.restore();
        is("restored stuff", y.stuff(2, 0), 0);
        is("restored grains", y.grains(0, 2), 0);
    }

    private static void tellsAndChecks() {
        HoleWater x = ladder();
        x.way(0, 2, 2, 1);
        x.way(0, 3, 1, 1);
        for (int i = 1; i <= 24; i++) {
            is("tell", x.tell(i), i);
        }
        is("tell, 25th", x.tell(0), FULL);
        is("count(7)", x.count(7), 24);
        is("check(2)", x.check(2), 1);
        is("count(7)", x.count(7), 0);
        int[] water = {0, 0, 5, 5};
        for (int v : water) {
            x.tell(v);
        }
        is("check(2), as foretold", x.check(2), 0);
        for (int v : water) {
            x.tell(v);
        }
        is("check(3), the second isn't", x.check(3), 2);
        x.tell(0);
        is("check(1)", x.check(1), KIND);
        is("none wait", x.count(7), 0);
        x.tell(0);
        is("check(4)", x.check(4), BEYOND);
        is("none wait", x.count(7), 0);
        is("check(-1)", x.check(-1), BEYOND);
        is("check of none", x.check(2), 0);
        is("nothing changes", x.count(0) + x.count(11), 0);
        x.tell(MIN);
        is("check of the least", x.check(2), 1);
    }

    private static void counts() {
        HoleWater x = pairs();
        is("count(-1)", x.count(-1), BEYOND);
        is("count(12)", x.count(12), BEYOND);
        x.put(0, 0, 100);
        x.flood(true);
        x.hours(3);
        x.bottle(2, 0);
        x.bag(2, 0, 9);
        x.tell(1);
        Due.feed(x, "123");
        x.voice(0, 1, 1);
        x.way(5, 102, 1, 1);
        x.hours(1);
        int[] due = {4, 4, 4, 1, 2, 1, 3, 1, 2, 1, 5, 15};
        for (int what = 0; what < 12; what++) {
            is("count(" + what + ")", x.count(what), due[what]);
        }
    }

    private static void tolds() {
        HoleWater x = ladder();
        is("told(1)", x.told(1), 0);
        is("told(0)", x.told(0), BEYOND);
        is("told(7)", x.told(7), BEYOND);
        is("told(MIN)", x.told(MIN), BEYOND);
        is("told(1)", x.told(1), 3);
        x.restore();
        x.trace(0);
        is("told(2)", x.told(2), 2);
        x.way(0, 101, 1, 1);
        is("told(3)", x.told(3), 1);
        for (int i = 0; i < 26; i++) {
            x.tell(i);
        }
        is("told(4)", x.told(4), 2);
        x.rain(1);
        is("told(5)", x.told(5), 1);
        x.way(0, 1, 3, 3);
        x.voice(0, 3, 3);
        is("told(6)", x.told(6), 1);
        x.text(0);
        is("a FAULT is no ERROR", x.told(1), 3);
    }
}
