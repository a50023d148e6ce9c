import java.util.List;

/** The boundary cases that the promises name: the last value that is still taken, the first that isn't, empty, full. */
public final class PromiseEdgeTest {
    private static final int BEYOND = Due.BEYOND;
    private static final int NONE = Due.NONE;
    private static final int STATE = Due.STATE;
    private static final int FULL = Due.FULL;
    private static final int KIND = Due.KIND;
    private static final int PARTED = Due.PARTED;
    private static final int MIN = Integer.MIN_VALUE;
    private static final int MAX = Integer.MAX_VALUE;
    private static final int HOLE = 0;
    private static final int ROOM = 1;
    private static final int SPRING = 2;
    private static final int SEA = 3;
    private static final Due DUE = new Due();

    private static void of(String sentence) {
        DUE.of(sentence);
    }

    private static void is(String call, long got, long want) {
        DUE.is(call, got, want);
    }

    public static void main(String[] args) {
        newObject();
        joint();
        jointIs();
        way();
        as();
        wayIs();
        hangs();
        quick();
        flood();
        fade();
        hours();
        put();
        putIs();
        pours();
        poursInPart();
        grains();
        stuff();
        out();
        spill();
        first();
        feed();
        text();
        rain();
        seen();
        bottle();
        bag();
        lookIs();
        joined();
        never();
        span();
        musts();
        crosses();
        crossesInDetail();
        rooms();
        town();
        night();
        share();
        voice();
        trace();
        sheet();
        place();
        move();
        image();
        restore();
        tell();
        check();
        count();
        told();
        for (int n = 1; n <= 46; n++) {
            of("every promise");
            is("Promise " + n + " was asked about", DUE.askedOf("Promise " + n + ":") ? 1 : 0, 1);
        }
        DUE.end();
    }

    /** A HOLE 0 above a ROOM 1 above a SPRING 2 above a SEA 3. */
    private static HoleWater ladder() {
        HoleWater x = new HoleWater();
        x.joint(HOLE, 10, 90);
        x.joint(ROOM, 20, 50);
        x.joint(SPRING, 30, 10);
        x.joint(SEA, 40, 0);
        return x;
    }

    private static void late(HoleWater x, int hour) {
        while (x.count(0) < hour) {
            x.hours(Math.min(60, hour - x.count(0)));
        }
    }

    /** HOLES 0, 1 and SPRINGS 2, 3: 0 has a WAY of 1 HOUR to 2, and 1 to 3. */
    private static HoleWater apart() {
        HoleWater x = new HoleWater();
        x.joint(HOLE, 10, 90);
        x.joint(HOLE, 30, 80);
        x.joint(SPRING, 30, 10);
        x.joint(SPRING, 10, 5);
        x.way(0, 2, 1, 1);
        x.way(0, 103, 1, 1);
        return x;
    }

    private static void newObject() {
        of("Promise 1: no JOINTS, WAYS");
        HoleWater x = new HoleWater();
        is("count(1)", x.count(1), 0);
        is("count(2)", x.count(2), 0);
        is("jointIs(0, 0)", x.jointIs(0, 0), BEYOND);
        is("wayIs(0, 0)", x.wayIs(0, 0), BEYOND);
        is("hours(60) of nothing", x.hours(60), 60);
        is("image() of nothing", x.image(), 1);
        is("restore() of nothing", x.restore(), 60);
        of("Promise 1: each object is new");
        HoleWater y = ladder();
        y.put(0, 0, 9);
        HoleWater z = new HoleWater();
        is("count(1)", z.count(1), 0);
        is("count(3)", z.count(3), 0);
        is("told(1)", z.told(1), 0);
    }

    private static void joint() {
        of("Promise 2: its number");
        HoleWater x = new HoleWater();
        is("the first", x.joint(HOLE, 0, 0), 0);
        is("refused", x.joint(HOLE, 0, 100), BEYOND);
        is("the second, next to the first", x.joint(SEA, 99, 99), 1);
        of("Promise 2: FULL");
        for (int i = 2; i < 16; i++) {
            x.joint(ROOM, i, i);
        }
        is("the 17th", x.joint(HOLE, 0, 0), FULL);
        is("the 17th, BEYOND first", x.joint(HOLE, 0, -1), BEYOND);
        is("the last is as it was", x.jointIs(15, 1), 15);
    }

    private static void jointIs() {
        of("Promise 3: what 0 .. 6");
        HoleWater x = ladder();
        x.way(0, 2, 1, 1);
        x.hours(3);
        x.town(2, true);
        int[] due = {2, 30, 10, 0, 10, 20, 1};
        is("what -1", x.jointIs(2, -1), BEYOND);
        for (int what = 0; what < 7; what++) {
            is("what " + what, x.jointIs(2, what), due[what]);
        }
        is("what 7", x.jointIs(2, 7), BEYOND);
        of("Promise 3: JOINT 0 .. the last");
        is("-1", x.jointIs(-1, 0), BEYOND);
        is("0", x.jointIs(0, 0), 0);
        is("the last", x.jointIs(3, 0), 3);
        is("one beyond", x.jointIs(4, 0), BEYOND);
        of("Promise 3: OUT in the latest HOUR, and ever");
        Due.text(x, 0, "0");
        x.hours(1);
        is("one HOUR more", x.jointIs(2, 4), 10);
        x.hours(1);
        is("none comes any more", x.jointIs(2, 4), 0);
        is("ever", x.jointIs(2, 5), 30);
        HoleWater dry = ladder();
        is("ahead of all HOURS: latest", dry.jointIs(2, 4), 0);
        is("ahead of all HOURS: ever", dry.jointIs(2, 5), 0);
        x.hours(1);
        is("a HOLE: OUT", x.jointIs(0, 4) + x.jointIs(0, 5), 0);
        is("a HOLE is no TOWN", x.jointIs(0, 6), 0);
    }

    private static void way() {
        of("Promise 4: ends: 100 times the JOINT from which it goes, and the one to which");
        HoleWater x = new HoleWater();
        for (int j = 0; j < 16; j++) {
            x.joint(ROOM, j, 99 - j);
        }
        is("from 0 to 1", x.way(0, 1, 1, 1), 0);
        is("from 0 to 15", x.way(0, 15, 1, 1), 1);
        is("from 14 to 15", x.way(0, 1415, 1, 1), 2);
        is("from 14 to 16", x.way(0, 1416, 1, 1), BEYOND);
        is("from 16 to 15", x.way(0, 1615, 1, 1), BEYOND);
        is("from 0 to 99", x.way(0, 99, 1, 1), BEYOND);
        is("-1", x.way(0, -1, 1, 1), BEYOND);
        is("-99, from 0 to -99", x.way(0, -99, 1, 1), BEYOND);
        is("-85, as far from 100 as 15", x.way(0, -85, 1, 1), BEYOND);
        is("from", x.wayIs(2, 1), 14);
        is("to", x.wayIs(2, 2), 15);
        is("how many", x.count(2), 3);
        of("Promise 4: BEYOND: KIND, JOINTS, LONG, N");
        is("all of them at the least", x.way(0, 1, 1, 1), 3);
        is("all of them at the greatest", x.way(5, 1415, 20, 99), 4);
        is("KIND below", x.way(-1, 1, 1, 1), BEYOND);
        is("KIND above", x.way(6, 1, 1, 1), BEYOND);
        is("LONG below", x.way(0, 1, 0, 1), BEYOND);
        is("LONG above", x.way(0, 1, 21, 1), BEYOND);
        is("N below", x.way(0, 1, 1, 0), BEYOND);
        is("N above", x.way(0, 1, 1, 100), BEYOND);
        of("Promise 4: KIND: from a SPRING or SEA, to a HOLE");
        HoleWater y = ladder();
        y.joint(HOLE, 0, 5);
        is("from a SPRING", y.way(0, 203, 1, 1), KIND);
        is("from a SEA", y.way(0, 302, 1, 1), KIND);
        is("to a HOLE, down", y.way(0, 104, 1, 1), KIND);
        of("Promise 4: STATE: not down");
        is("to itself", y.way(0, 101, 1, 1), STATE);
        y.joint(ROOM, 0, 50);
        is("level", y.way(0, 105, 1, 1), STATE);
        y.joint(ROOM, 0, 49);
        is("1 down", y.way(0, 106, 1, 1), 0);
        is("1 up", y.way(0, 605, 1, 1), STATE);
        of("Promise 4: FULL");
        for (int w = 1; w < 24; w++) {
            is("way " + w, y.way(0, 106, 1, 1), w);
        }
        is("the 25th", y.way(0, 106, 1, 1), FULL);
        is("the 25th, not down", y.way(0, 105, 1, 1), STATE);
        is("the 25th, to a HOLE", y.way(0, 104, 1, 1), KIND);
        is("the 25th, N above", y.way(0, 106, 1, 100), BEYOND);
        is("how many", y.count(2), 24);
    }

    private static void as() {
        of("Promise 5: WAYS 0 .. the last, KINDS 0 .. 5");
        HoleWater x = ladder();
        for (int kind = 0; kind < 6; kind++) {
            x.way(kind, 1, 9, 1);
        }
        is("as(-1, 0)", x.as(-1, 0), BEYOND);
        is("as(0, 0)", x.as(0, 0), 9);
        is("as(5, 5)", x.as(5, 5), 18);
        is("as(6, 0)", x.as(6, 0), BEYOND);
        is("as(0, -1)", x.as(0, -1), BEYOND);
        is("as(5, 6)", x.as(5, 6), BEYOND);
        of("Promise 5: KIND: it isn't of that KIND, nor of one under it");
        int[][] due = {
            {9, KIND, KIND, KIND, KIND, KIND}, {5, 5, KIND, KIND, KIND, KIND}, {18, KIND, 18, KIND, KIND, KIND},
            {5, 5, KIND, 5, KIND, KIND}, {9, KIND, KIND, KIND, 9, KIND}, {18, KIND, 18, KIND, KIND, 18}};
        for (int w = 0; w < 6; w++) {
            for (int kind = 0; kind < 6; kind++) {
                is("as(" + w + ", " + kind + ")", x.as(w, kind), due[w][kind]);
            }
        }
    }

    private static void wayIs() {
        of("Promise 6: what 0 .. 6");
        HoleWater x = ladder();
        x.way(4, 2, 3, 4);
        x.hours(4);
        // 40 went in, 10 of them came to what is HELD, 3 of these came OUT
        int[] due = {4, 0, 2, 3, 4, 3, 37};
        is("what -1", x.wayIs(0, -1), BEYOND);
        for (int what = 0; what < 7; what++) {
            is("what " + what, x.wayIs(0, what), due[what]);
        }
        is("what 7", x.wayIs(0, 7), BEYOND);
        of("Promise 6: WAYS 0 .. the last");
        is("-1", x.wayIs(-1, 0), BEYOND);
        is("one beyond", x.wayIs(1, 0), BEYOND);
        of("Promise 6: WATER in it, with what is HELD");
        HoleWater y = ladder();
        y.way(2, 2, 20, 1);
        y.hours(40);
        is("40 HOURS under way", y.wayIs(0, 6), 400);
        y.hours(1);
        is("the first came OUT, one more went in", y.wayIs(0, 6), 400);
        is("OUT", y.jointIs(2, 5), 10);
    }

    private static void hangs() {
        of("Promise 7: HOLES from which one can come to a JOINT by WAYS");
        HoleWater x = new HoleWater();
        for (int j = 0; j < 14; j++) {
            x.joint(HOLE, j, 99);
        }
        x.joint(ROOM, 0, 50);
        x.joint(SPRING, 0, 10);
        is("none", x.hangs(15, true), 0);
        for (int j = 0; j < 14; j++) {
            x.way(0, j * 100 + 14, 1, 1);
        }
        is("all 14 at the ROOM", x.hangs(14, false), (1 << 14) - 1);
        is("none further below", x.hangs(15, false), 0);
        x.way(3, 1415, 1, 1);
        of("Promise 7: and, unless may, OVERFLOWS");
        is("by an OVERFLOW, may", x.hangs(15, true), (1 << 14) - 1);
        is("by an OVERFLOW, not may", x.hangs(15, false), 0);
        x.way(1, 1415, 1, 1);
        is("by an OPEN", x.hangs(15, false), (1 << 14) - 1);
        of("Promise 7: but BLIND ones");
        HoleWater y = ladder();
        y.way(5, 2, 1, 1);
        is("by a BLIND one, may", y.hangs(2, true), 0);
        y.way(2, 2, 1, 1);
        is("by a SIEVE", y.hangs(2, false), 1);
        HoleWater z = ladder();
        z.way(4, 1, 1, 1);
        z.way(5, 102, 1, 1);
        is("a BLIND one further below", z.hangs(2, true), 0);
        is("ahead of it", z.hangs(1, false), 1);
        of("Promise 7: a HOLE itself");
        is("hangs(0, false)", y.hangs(0, false), 1);
        of("Promise 7: a long chain, made from below");
        HoleWater c = new HoleWater();
        c.joint(HOLE, 0, 99);
        for (int j = 1; j < 16; j++) {
            c.joint(ROOM, 0, 99 - j);
        }
        for (int j = 14; j >= 0; j--) {
            c.way(0, j * 100 + j + 1, 20, 1);
        }
        is("hangs(15, false)", c.hangs(15, false), 1);
        of("Promise 8: the fewest HOURS: a long chain");
        is("quick(0, 15)", c.quick(0, 15), 300);
        is("quick(1, 15)", c.quick(1, 15), 280);
        of("Promise 7: by the last of 24 WAYS");
        HoleWater full = ladder();
        for (int w = 0; w < 23; w++) {
            full.way(5, 2, 1, 1);
        }
        is("ahead of it", full.hangs(2, true), 0);
        is("the last", full.way(3, 2, 3, 1), 23);
        is("hangs(2, true)", full.hangs(2, true), 1);
        is("hangs(2, false)", full.hangs(2, false), 0);
        of("Promise 8: by the last of 24 WAYS");
        is("quick(0, 2)", full.quick(0, 2), 2);
        is("quick(0, 3)", full.quick(0, 3), NONE);
        of("Promise 7: BEYOND");
        is("-1", y.hangs(-1, true), BEYOND);
        is("the last", y.hangs(3, true), 0);
        is("one beyond", y.hangs(4, true), BEYOND);
    }

    private static void quick() {
        of("Promise 8: (0: to itself)");
        HoleWater x = ladder();
        for (int j = 0; j < 4; j++) {
            is("JOINT " + j, x.quick(j, j), 0);
        }
        of("Promise 8: NONE");
        is("without WAYS", x.quick(0, 2), NONE);
        x.way(5, 2, 1, 1);
        is("by a BLIND one", x.quick(0, 2), NONE);
        x.way(2, 2, 20, 1);
        is("by a SIEVE", x.quick(0, 2), 40);
        is("back", x.quick(2, 0), NONE);
        of("Promise 8: the fewest");
        x.way(0, 1, 20, 1);
        x.way(0, 102, 20, 1);
        is("40 and 20 with 20", x.quick(0, 2), 40);
        x.way(3, 102, 20, 1);
        is("20 with 11 by an OVERFLOW", x.quick(0, 2), 31);
        x.way(0, 2, 19, 1);
        is("19", x.quick(0, 2), 19);
        x.way(1, 1, 1, 1);
        x.way(1, 102, 2, 1);
        is("1 with 2", x.quick(0, 2), 3);
        of("Promise 8: BEYOND");
        is("from -1", x.quick(-1, 0), BEYOND);
        is("from one beyond", x.quick(4, 0), BEYOND);
        is("to -1", x.quick(0, -1), BEYOND);
        is("to one beyond", x.quick(0, 4), BEYOND);
    }

    private static void flood() {
        of("Promise 9: what it was, 1 or 0");
        HoleWater x = new HoleWater();
        is("at first", x.flood(false), 0);
        is("still", x.flood(true), 0);
        is("FLOOD", x.flood(true), 1);
        is("FLOOD still", x.flood(false), 1);
        is("no more", x.flood(false), 0);
    }

    private static void fade() {
        of("Promise 10: FADE of a COLOUR (0 .. 99): what it was");
        HoleWater x = new HoleWater();
        for (int colour = 0; colour < 4; colour++) {
            is("at first, " + colour, x.fade(colour, 99 - colour), 0);
        }
        is("COLOUR 0", x.fade(0, 0), 99);
        is("COLOUR 3", x.fade(3, 99), 96);
        is("COLOUR 0, least", x.fade(0, 5), 0);
        is("COLOUR 3, greatest", x.fade(3, 5), 99);
        of("Promise 10: BEYOND");
        is("COLOUR -1", x.fade(-1, 0), BEYOND);
        is("COLOUR 4", x.fade(4, 0), BEYOND);
        is("v -1", x.fade(0, -1), BEYOND);
        is("v 100", x.fade(0, 100), BEYOND);
        is("it stays", x.fade(0, 5), 5);
    }

    private static void hours() {
        of("Promise 11: n (1 .. 60) HOURS go by: NOW");
        HoleWater x = new HoleWater();
        is("0", x.hours(0), BEYOND);
        is("1", x.hours(1), 1);
        is("60", x.hours(60), 61);
        is("61", x.hours(61), BEYOND);
        of("Promise 11: STATE: NOW would be above 999");
        late(x, 940);
        is("60 at 940", x.hours(60), STATE);
        is("59 at 940", x.hours(59), 999);
        is("1 at 999", x.hours(1), STATE);
        is("BEYOND ahead of it", x.hours(61), BEYOND);
        of("Promise 11: n HOURS are as n times one");
        HoleWater one = Scene.RICH.make();
        HoleWater many = Scene.RICH.make();
        for (int i = 0; i < 60; i++) {
            one.hours(1);
        }
        many.hours(60);
        for (int part = 0; part < 4; part++) {
            is("part " + part, Scene.told(one, part).equals(Scene.told(many, part)) ? 1 : 0, 1);
        }
    }

    private static void put() {
        of("Promise 12: GRAINS (1 .. 9999) of a COLOUR");
        HoleWater x = ladder();
        is("0", x.put(0, 0, 0), BEYOND);
        is("1", x.put(0, 0, 1), 0);
        is("9999", x.put(0, 0, 9999), 1);
        is("10000", x.put(0, 0, 10000), BEYOND);
        is("grains(0, 0)", x.grains(0, 0), 10000);
        of("Promise 12: KIND: no HOLE");
        is("a ROOM", x.put(1, 0, 1), KIND);
        is("a SPRING", x.put(2, 0, 1), KIND);
        is("a SEA", x.put(3, 0, 1), KIND);
        is("no JOINT", x.put(4, 0, 1), BEYOND);
        of("Promise 12: FULL");
        for (int p = 2; p < 40; p++) {
            is("put " + p, x.put(0, 1, 1), p);
        }
        is("the 41st", x.put(0, 1, 1), FULL);
        is("the 41st, no HOLE", x.put(1, 1, 1), KIND);
        is("the 41st, 10000", x.put(0, 1, 10000), BEYOND);
        is("grains(0, 1)", x.grains(0, 1), 38);
        of("Promise 12: at HOUR 999");
        HoleWater y = ladder();
        late(y, 999);
        is("put", y.put(0, 0, 5), 0);
        is("the HOUR", y.putIs(0, 3), 999);
    }

    private static void putIs() {
        of("Promise 13: what 0 .. 3");
        HoleWater x = ladder();
        is("none at first", x.putIs(0, 0), BEYOND);
        x.hours(3);
        x.put(0, 2, 77);
        int[] due = {0, 2, 77, 3};
        is("what -1", x.putIs(0, -1), BEYOND);
        for (int what = 0; what < 4; what++) {
            is("what " + what, x.putIs(0, what), due[what]);
        }
        is("what 4", x.putIs(0, 4), BEYOND);
        of("Promise 13: PUTS 0 .. the last");
        is("-1", x.putIs(-1, 0), BEYOND);
        is("one beyond", x.putIs(1, 0), BEYOND);
        is("a refused one isn't there", x.put(0, 2, 0), BEYOND);
        is("one beyond", x.putIs(1, 0), BEYOND);
    }

    /** A SHEET 0 of 12 numbers of 32 bits: 1, 2, .. 12. */
    private static HoleWater counted() {
        HoleWater x = ladder();
        x.sheet(0, 32, 12);
        for (int i = 0; i < 12; i++) {
            x.place(0, i, i + 1);
        }
        return x;
    }

    private static void pours() {
        of("Promise 14: n (0 .. 9) numbers, from number i on");
        HoleWater x = counted();
        is("n -1", x.pours(0, 0, 0, 0, -1), BEYOND);
        is("n 0", x.pours(0, 0, 0, 0, 0), 0);
        is("n 1", x.pours(0, 0, 0, 11, 1), 1);
        is("n 9", x.pours(0, 0, 0, 3, 9), 9);
        is("n 10", x.pours(0, 0, 0, 0, 10), BEYOND);
        is("how many", x.count(3), 10);
        is("the first", x.putIs(0, 2), 12);
        is("the second", x.putIs(1, 2), 4);
        is("the last", x.putIs(9, 2), 12);
        of("Promise 14: those that aren't 1 .. 9999 are left out");
        HoleWater y = ladder();
        y.sheet(0, 32, 9);
        int[] numbers = {0, 1, 9999, 10000, -1, MIN, MAX, 2, 9998};
        for (int i = 0; i < 9; i++) {
            y.place(0, i, numbers[i]);
        }
        is("how many were", y.pours(0, 3, 0, 0, 9), 4);
        is("1", y.putIs(0, 2), 1);
        is("9999", y.putIs(1, 2), 9999);
        is("2", y.putIs(2, 2), 2);
        is("9998", y.putIs(3, 2), 9998);
        is("no more", y.count(3), 4);
        is("their COLOUR", y.putIs(3, 1), 3);
        of("Promise 14: BEYOND: HOLE, COLOUR, SHEET, n");
        is("HOLE 4", x.pours(4, 0, 0, 0, 1), BEYOND);
        is("HOLE -1", x.pours(-1, 0, 0, 0, 1), BEYOND);
        is("COLOUR 4", x.pours(0, 4, 0, 0, 1), BEYOND);
        is("COLOUR -1", x.pours(0, -1, 0, 0, 1), BEYOND);
        is("SHEET 4", x.pours(0, 0, 4, 0, 1), BEYOND);
        is("SHEET -1", x.pours(0, 0, -1, 0, 1), BEYOND);
        of("Promise 14: KIND: no HOLE; NONE: the SHEET is missing");
        is("a ROOM", x.pours(1, 0, 0, 0, 1), KIND);
        is("a missing SHEET", x.pours(0, 0, 3, 0, 1), NONE);
        is("a missing SHEET, a ROOM", x.pours(1, 0, 3, 0, 1), KIND);
        is("a missing SHEET, n 10", x.pours(0, 0, 3, 0, 10), BEYOND);
        x.sheet(3, 8, 0);
        is("an empty SHEET, n 0", x.pours(0, 0, 3, 0, 0), 0);
        is("an empty SHEET, n 1", x.pours(0, 0, 3, 0, 1), BEYOND);
    }

    private static void poursInPart() {
        of("Promise 14: BEYOND: a number doesn't stand there: those ahead of it were put");
        HoleWater x = counted();
        is("9 from 4 on, of 12", x.pours(0, 0, 0, 4, 9), BEYOND);
        is("8 were put", x.count(3), 8);
        is("the last of them", x.putIs(7, 2), 12);
        is("from 12 on", x.pours(0, 0, 0, 12, 1), BEYOND);
        is("from -1 on", x.pours(0, 0, 0, -1, 9), BEYOND);
        is("from MAX on", x.pours(0, 0, 0, MAX, 9), BEYOND);
        is("from MIN on", x.pours(0, 0, 0, MIN, 9), BEYOND);
        is("none more", x.count(3), 8);
        is("told(1)", x.told(1), 5);
        is("n 0 from nowhere", x.pours(0, 0, 0, -1, 0), 0);
        of("Promise 14: FULL: there is no room: those ahead of it were put");
        HoleWater y = counted();
        for (int p = 0; p < 35; p++) {
            y.put(0, 3, 1);
        }
        is("9 with room for 5", y.pours(0, 0, 0, 0, 9), FULL);
        is("5 were put", y.count(3), 40);
        is("1 .. 5", y.grains(0, 0), 15);
        is("the last of them", y.putIs(39, 2), 5);
        is("no room at all", y.pours(0, 0, 0, 0, 1), FULL);
        is("n 0", y.pours(0, 0, 0, 0, 0), 0);
        is("told(4)", y.told(4), 2);
        of("Promise 14: what is left out needs no room; just enough room");
        y.place(0, 0, 0);
        y.place(0, 1, 10000);
        is("two that are left out", y.pours(0, 0, 0, 0, 2), 0);
        is("a third that isn't", y.pours(0, 0, 0, 0, 3), FULL);
        HoleWater z = counted();
        for (int p = 0; p < 31; p++) {
            z.put(0, 3, 1);
        }
        is("9 with room for 9", z.pours(0, 0, 0, 0, 9), 9);
        is("all 40", z.count(3), 40);
        of("Promise 14: BEYOND of a number ahead of FULL, and behind it");
        is("no such number, no room", z.pours(0, 0, 0, 12, 1), BEYOND);
        is("one that stands there, no room", z.pours(0, 0, 0, 11, 2), FULL);
    }

    private static void grains() {
        of("Promise 15: JOINTS, COLOURS");
        HoleWater x = ladder();
        x.put(0, 3, 8);
        is("COLOUR 3", x.grains(0, 3), 8);
        is("COLOUR 0", x.grains(0, 0), 0);
        is("the last JOINT", x.grains(3, 3), 0);
        is("JOINT -1", x.grains(-1, 0), BEYOND);
        is("JOINT 4", x.grains(4, 0), BEYOND);
        is("COLOUR -1", x.grains(0, -1), BEYOND);
        is("COLOUR 4", x.grains(0, 4), BEYOND);
        of("Promise 15: the most that can be there");
        HoleWater y = ladder();
        for (int p = 0; p < 40; p++) {
            y.put(0, 0, 9999);
        }
        is("40 times 9999", y.grains(0, 0), 399960);
        Due.text(y, 0, "999");
        y.hours(60);
        y.way(3, 2, 1, 99);
        y.hours(1);
        // W is 999 * 61 = 60939, of which 60840 go: 399960 * 60840 / 60939 is 399310 (cut)
        is("what stays", y.grains(0, 0), 399960 - 399310);
        y.hours(1);
        is("what came OUT", y.out(2, 0, 1), 399310);
    }

    private static void stuff() {
        of("Promise 16: what 0 .. 6");
        HoleWater x = ladder();
        x.way(2, 2, 1, 4);
        x.way(5, 3, 1, 5);
        x.way(0, 3, 1, 1);
        x.fade(1, 10);
        x.put(0, 1, 100);
        x.put(0, 0, 9);
        is("what -1", x.stuff(1, -1), BEYOND);
        is("0 put", x.stuff(1, 0), 100);
        is("1 below", x.stuff(1, 1), 100);
        x.hours(1);
        // WATER 4, 3, 3 of 10: 40, 30, 30 GRAINS; 10 STUCK in the SIEVE, 6 in the BLIND one, 24 LOST there
        is("1 below", x.stuff(1, 1), 60);
        is("2 STUCK", x.stuff(1, 2), 16);
        is("4 LOST", x.stuff(1, 4), 24);
        x.put(0, 1, 5);
        x.hours(2);
        // of 30 SIEVE'S GRAINS 6 FADED (2 HOURS), of 30 of the WAY 3; of the second PUT 3, 1, 1 go: WAY's 1: none FADED
        is("3 FADED", x.stuff(1, 3), 6 + 3);
        is("5 OUT at SPRINGS", x.stuff(1, 5), 24);
        is("6 OUT at SEAS", x.stuff(1, 6), 27 + 1);
        is("1 below: 3 in the SIEVE", x.stuff(1, 1), 3);
        is("4 LOST", x.stuff(1, 4), 25);
        is("0 put", x.stuff(1, 0), 105);
        is("what 7", x.stuff(1, 7), BEYOND);
        of("Promise 16: COLOURS");
        is("COLOUR -1", x.stuff(-1, 0), BEYOND);
        is("COLOUR 0", x.stuff(0, 0), 9);
        is("COLOUR 3", x.stuff(3, 0), 0);
        is("COLOUR 4", x.stuff(4, 0), BEYOND);
    }

    private static void out() {
        of("Promise 17: the HOUR that is ago (1 .. 24) HOURS ahead of NOW");
        HoleWater x = ladder();
        x.way(0, 2, 1, 1);
        x.put(0, 3, 50);
        x.hours(2);
        is("ago 0", x.out(2, 3, 0), BEYOND);
        is("ago 1", x.out(2, 3, 1), 50);
        is("ago 2", x.out(2, 3, 2), 0);
        x.hours(23);
        is("ago 23", x.out(2, 3, 23), 0);
        is("ago 24", x.out(2, 3, 24), 50);
        is("ago 25", x.out(2, 3, 25), BEYOND);
        x.hours(1);
        is("ago 24, one HOUR later", x.out(2, 3, 24), 0);
        is("ago 1, 25 HOURS later", x.out(2, 3, 1), 0);
        of("Promise 17: (0 if there was none)");
        HoleWater y = ladder();
        y.way(0, 2, 1, 1);
        y.put(0, 0, 9);
        is("NOW 0, ago 1", y.out(2, 0, 1), 0);
        is("NOW 0, ago 24", y.out(2, 0, 24), 0);
        y.hours(2);
        is("NOW 2, ago 2", y.out(2, 0, 2), 0);
        is("NOW 2, ago 3", y.out(2, 0, 3), 0);
        is("NOW 2, ago 24", y.out(2, 0, 24), 0);
        of("Promise 17: at a SPRING or SEA; KIND");
        is("a HOLE", x.out(0, 0, 1), KIND);
        is("a ROOM", x.out(1, 0, 1), KIND);
        is("a SPRING", x.out(2, 0, 1), 0);
        is("a SEA", x.out(3, 0, 1), 0);
        is("a HOLE, ago 25", x.out(0, 0, 25), BEYOND);
        is("a HOLE, COLOUR 4", x.out(0, 4, 1), BEYOND);
        is("JOINT 4", x.out(4, 0, 1), BEYOND);
        is("COLOUR -1", x.out(2, -1, 1), BEYOND);
        of("Promise 17: a JOINT that is new");
        x.joint(SPRING, 1, 1);
        is("ago 24", x.out(4, 3, 24), 0);
    }

    private static void spill() {
        of("Promise 18: in n (1 .. 60) HOURS from NOW on, together");
        HoleWater x = ladder();
        x.way(0, 2, 1, 1);
        is("n 0", x.spill(0, 10, 2, 0), BEYOND);
        is("n 1", x.spill(0, 10, 2, 1), 0);
        is("n 2", x.spill(0, 10, 2, 2), 10);
        is("n 60", x.spill(0, 10, 2, 60), 10);
        is("n 61", x.spill(0, 10, 2, 61), BEYOND);
        HoleWater p = ladder();
        p.way(4, 2, 1, 10);
        is("10 HELD: 1 in HOUR 2", p.spill(0, 10, 2, 2), 1);
        is("9 HELD: 1 in HOUR 3", p.spill(0, 10, 2, 3), 2);
        is("all in HOUR 11", p.spill(0, 10, 2, 11), 10);
        is("but one in HOUR 10", p.spill(0, 10, 2, 10), 9);
        HoleWater far = ladder();
        far.way(0, 1, 19, 1);
        far.way(2, 102, 20, 2);
        is("in HOUR 60", far.spill(0, 10, 2, 60), 5);
        is("not in HOUR 59", far.spill(0, 10, 2, 59), 0);
        of("Promise 18: so many (1 .. 9999)");
        is("0", x.spill(0, 0, 2, 2), BEYOND);
        is("1", x.spill(0, 1, 2, 2), 1);
        is("9999", x.spill(0, 9999, 2, 2), 9999);
        is("10000", x.spill(0, 10000, 2, 2), BEYOND);
        of("Promise 18: none of it were anywhere below; of COLOUR 3");
        HoleWater y = ladder();
        y.way(4, 1, 1, 3);
        y.way(0, 102, 5, 1);
        for (int colour = 0; colour < 4; colour++) {
            y.put(0, colour, 100);
        }
        y.hours(3);
        y.put(0, 3, 100);
        is("at HOLES, in WAYS, HELD", y.spill(0, 8, 2, 60), 8);
        HoleWater other = apart();
        other.joint(ROOM, 1, 50);
        other.joint(HOLE, 1, 60);
        other.way(0, 402, 1, 1);
        other.way(0, 504, 1, 1);
        Due.text(other, 0, "0?k=5;10");
        other.put(1, 3, 100);
        other.put(5, 3, 100);
        is("at another HOLE: none of it comes", other.spill(0, 8, 3, 60), 0);
        is("at another HOLE: the 8 alone come", other.spill(0, 8, 2, 60), 8);
        Due.text(other, 0, "10?d+h=0;0");
        other.hours(2);
        is("GRAINS are in the WAY from the ROOM", other.stuff(3, 1), 100);
        is("on the way to the SPRING: none of it comes", other.spill(0, 8, 2, 60), 0);
        is("first: none of it comes", other.first(0, 8, 2), NONE);
        y.fade(0, 99);
        is("FADE of another COLOUR", y.spill(0, 8, 2, 60), 8);
        y.fade(3, 99);
        is("FADE of COLOUR 3", y.spill(0, 8, 2, 60), 0);
        of("Promise 18: nothing changes");
        for (int part = 0; part < Scene.PARTS; part++) {
            HoleWater rich = Scene.RICH.make();
            rich.spill(0, 9999, 5, 60);
            rich.first(1, 9999, 6);
            is("part " + part, Scene.told(rich, part).equals(Scene.told(Scene.RICH.make(), part)) ? 1 : 0, 1);
        }
        of("Promise 18: though PUTS are full");
        for (int i = 0; i < 40; i++) {
            x.put(0, 0, 1);
        }
        is("spill", x.spill(0, 10, 2, 2), 10);
        of("Promise 18: HOURS beyond 999 are as others");
        late(x, 999);
        is("at 999", x.spill(0, 10, 2, 60), 10);
        Due.text(x, 0, "d-41");
        is("RAIN from HOUR 1008 on: 10 HOURS", x.spill(0, 10, 2, 10), 0);
        is("RAIN from HOUR 1008 on: 11 HOURS", x.spill(0, 10, 2, 11), 10);
        is("NOW", x.count(0), 999);
        of("Promise 18: KIND: no HOLE, no SPRING or SEA");
        is("a ROOM", x.spill(1, 1, 2, 1), KIND);
        is("a SPRING", x.spill(2, 1, 2, 1), KIND);
        is("at a HOLE", x.spill(0, 1, 0, 1), KIND);
        is("at a ROOM", x.spill(0, 1, 1, 1), KIND);
        is("at a SEA", x.spill(0, 1, 3, 1), 0);
        is("a ROOM, n 61", x.spill(1, 1, 2, 61), BEYOND);
        is("JOINT 4", x.spill(0, 1, 4, 1), BEYOND);
        is("HOLE 4", x.spill(4, 1, 2, 1), BEYOND);
    }

    private static void first() {
        of("Promise 19: in how many HOURS (60 at most)");
        HoleWater x = ladder();
        x.way(0, 1, 19, 1);
        x.way(2, 102, 20, 2);
        is("59 and the first HOUR", x.first(0, 10, 2), 60);
        HoleWater y = ladder();
        y.way(0, 1, 20, 1);
        y.way(2, 102, 20, 2);
        is("60 and the first HOUR", y.first(0, 10, 2), NONE);
        HoleWater z = ladder();
        z.way(1, 2, 1, 1);
        is("the soonest", z.first(0, 1, 2), 2);
        of("Promise 19: NONE");
        is("no WAY there", z.first(0, 1, 3), NONE);
        HoleWater stuck = ladder();
        stuck.way(2, 2, 1, 1);
        is("all STUCK", stuck.first(0, 9999, 2), NONE);
        HoleWater blind = ladder();
        blind.way(5, 2, 1, 99);
        is("all LOST", blind.first(0, 9999, 2), NONE);
        HoleWater gone = ladder();
        gone.way(0, 2, 2, 1);
        gone.fade(3, 50);
        is("all FADED", gone.first(0, 9999, 2), NONE);
        gone.fade(3, 49);
        is("98 of 100 FADED: 2 left", gone.first(0, 100, 2), 3);
        is("98 hundredths of 1 is cut: it is left", gone.first(0, 1, 2), 3);
        HoleWater dry = ladder();
        dry.way(0, 2, 1, 1);
        Due.text(dry, 0, "0");
        is("no WATER", dry.first(0, 9999, 2), NONE);
        of("Promise 19: BEYOND, KIND likewise");
        is("GRAINS 0", z.first(0, 0, 2), BEYOND);
        is("GRAINS 9999", z.first(0, 9999, 2), 2);
        is("GRAINS 10000", z.first(0, 10000, 2), BEYOND);
        is("HOLE 4", z.first(4, 1, 2), BEYOND);
        is("HOLE -1", z.first(-1, 1, 2), BEYOND);
        is("JOINT 4", z.first(0, 1, 4), BEYOND);
        is("a ROOM", z.first(1, 1, 2), KIND);
        is("at a ROOM", z.first(0, 1, 1), KIND);
        is("at a ROOM, GRAINS 0", z.first(0, 0, 1), BEYOND);
        of("Promise 19: HOURS beyond 999 are as others");
        late(z, 999);
        is("at 999", z.first(0, 1, 2), 2);
        is("told(2) doesn't move", z.told(2), 1);
    }

    private static void feed() {
        of("Promise 20: the n lowest bytes (1 .. 8) of a word");
        HoleWater x = ladder();
        is("n 0", x.feed(0x31, 0), BEYOND);
        is("n 1", x.feed(0x3232323232323231L, 1), 1);
        is("one of them alone came", x.text(0), 1);
        is("the lowest", x.rain(0), 1);
        is("n 8", x.feed(0x312B312B312B3131L, 8), 8);
        is("all came", x.text(0), 1);
        is("the lowest first", x.rain(0), 14);
        is("n 9", x.feed(0x31, 9), BEYOND);
        is("the greatest byte of a word below 0", x.feed(0xBB31313131313131L, 8), 8);
        is("it is no sign", x.text(0), -10 - 3);
        of("Promise 20: FULL");
        Due.feed(x, "1".repeat(52));
        is("8 to 52", x.feed(0, 8), 60);
        is("1 to 60", x.feed(0, 1), FULL);
        is("9 to 60", x.feed(0, 9), BEYOND);
        is("0 to 60", x.feed(0, 0), BEYOND);
        x.text(0);
        Due.feed(x, "1".repeat(53));
        is("8 to 53", x.feed(0x32, 8), FULL);
        is("none of them came", x.count(6), 53);
        is("7 to 53", x.feed(0x32, 7), 60);
    }

    private static void text() {
        of("Promise 21: USES 0, 1; BEYOND (THE TAPE stays)");
        HoleWater x = ladder();
        Due.feed(x, "33");
        is("-1", x.text(-1), BEYOND);
        is("2", x.text(2), BEYOND);
        is("THE TAPE stays", x.count(6), 2);
        is("0", x.text(0), 1);
        is("THE TAPE is empty", x.count(6), 0);
        is("it tells", x.rain(0), 33);
        Due.feed(x, "44");
        is("1", x.text(1), 1);
        is("it tells", x.seen(2, 0, 0), 44);
        of("Promise 21: -10 less its FAULT (the one ahead stays), THE TAPE is empty then");
        Due.feed(x, "5)");
        is("FAULT 1", x.text(0), -11);
        is("THE TAPE is empty", x.count(6), 0);
        is("the one ahead stays", x.rain(0), 33);
        is("an empty TAPE: FAULT 0", x.text(0), -10);
        is("the one ahead stays", x.rain(0), 33);
        is("no ERROR was told", x.told(1), 2);
        of("Promise 21: how many CASES");
        is("6", Due.text(x, 0, "1;2;3;4;5;6"), 6);
        is("1", Due.text(x, 0, "1"), 1);
        of("Promise 21: in place of one ahead: a shorter one, a longer one");
        Due.text(x, 0, "1+1+1+1+1+1+1");
        Due.text(x, 0, "2");
        is("shorter", x.rain(0), 2);
        Due.text(x, 0, "2+2+2+2+2+2+2+2+2");
        is("longer", x.rain(0), 18);
    }

    private static void rain() {
        of("Promise 22: BEYOND, KIND");
        HoleWater x = ladder();
        is("-1", x.rain(-1), BEYOND);
        is("a HOLE", x.rain(0), 10);
        is("a ROOM", x.rain(1), KIND);
        is("a SPRING", x.rain(2), KIND);
        is("a SEA", x.rain(3), KIND);
        is("4", x.rain(4), BEYOND);
        of("Promise 22: in the HOUR NOW");
        Due.text(x, 0, "h");
        late(x, 23);
        is("at 23", x.rain(0), 23);
        x.hours(1);
        is("at 24", x.rain(0), 0);
    }

    private static void seen() {
        of("Promise 23: BEYOND, KIND: no SPRING");
        HoleWater x = ladder();
        is("-1", x.seen(-1, 0, 0), BEYOND);
        is("4", x.seen(4, 0, 0), BEYOND);
        is("a HOLE", x.seen(0, 0, 0), KIND);
        is("a ROOM", x.seen(1, 0, 0), KIND);
        is("a SPRING", x.seen(2, 0, 0), 5);
        is("a SEA", x.seen(3, 0, 0), KIND);
        is("COLOUR -1", x.seen(2, -1, 0), BEYOND);
        is("COLOUR 3", x.seen(2, 3, 0), 5);
        is("COLOUR 4", x.seen(2, 4, 0), BEYOND);
        of("Promise 23: of a sort (0 BOTTLE, 1 BAG)");
        is("-1", x.seen(2, 0, -1), BEYOND);
        is("0", x.seen(2, 0, 0), 5);
        is("1", x.seen(2, 0, 1), 5);
        is("2", x.seen(2, 0, 2), BEYOND);
        is("2, a SEA", x.seen(3, 0, 2), BEYOND);
    }

    private static void bottle() {
        of("Promise 24: GRAINS, if it SEES, else 0");
        HoleWater x = ladder();
        x.way(0, 2, 1, 1);
        x.put(0, 0, 5);
        x.put(0, 3, 4);
        x.hours(2);
        is("5 of 5", x.bottle(2, 0), 5);
        is("4 of 5", x.bottle(2, 3), 0);
        is("both are LOOKS", x.count(4), 2);
        is("one SAW", x.count(5), 1);
        of("Promise 24: BEYOND, KIND: no SPRING");
        is("-1", x.bottle(-1, 0), BEYOND);
        is("4", x.bottle(4, 0), BEYOND);
        is("COLOUR -1", x.bottle(2, -1), BEYOND);
        is("COLOUR 4", x.bottle(2, 4), BEYOND);
        is("a HOLE", x.bottle(0, 0), KIND);
        is("a ROOM", x.bottle(1, 0), KIND);
        is("a SEA", x.bottle(3, 0), KIND);
        is("no LOOK of these", x.count(4), 2);
        of("Promise 24: FULL");
        for (int l = 2; l < 59; l++) {
            x.bottle(2, 1);
        }
        is("the 60th", x.bottle(2, 0), 5);
        is("the 61st", x.bottle(2, 0), FULL);
        is("the 61st, a SEA", x.bottle(3, 0), KIND);
        is("the 61st, COLOUR 4", x.bottle(2, 4), BEYOND);
        is("the 60th SAW", x.lookIs(59, 4), 1);
        is("how many", x.count(4), 60);
    }

    private static void bag() {
        of("Promise 25: a BAG that hung n (1 .. 24) HOURS: 1 if it SEES, else 0");
        HoleWater x = ladder();
        x.way(0, 2, 1, 1);
        x.put(0, 0, 5);
        x.hours(2);
        x.hours(23);
        is("n 0", x.bag(2, 0, 0), BEYOND);
        is("n 1", x.bag(2, 0, 1), 0);
        is("n 23", x.bag(2, 0, 23), 0);
        is("n 24", x.bag(2, 0, 24), 1);
        is("n 25", x.bag(2, 0, 25), BEYOND);
        is("three LOOKS", x.count(4), 3);
        is("the last's n", x.lookIs(2, 3), 24);
        of("Promise 25: BEYOND, KIND: no SPRING");
        is("-1", x.bag(-1, 0, 1), BEYOND);
        is("4", x.bag(4, 0, 1), BEYOND);
        is("COLOUR -1", x.bag(2, -1, 1), BEYOND);
        is("COLOUR 4", x.bag(2, 4, 1), BEYOND);
        is("a HOLE", x.bag(0, 0, 1), KIND);
        is("a ROOM", x.bag(1, 0, 1), KIND);
        is("a SEA", x.bag(3, 0, 1), KIND);
        is("a SEA, n 25", x.bag(3, 0, 25), BEYOND);
        of("Promise 25: FULL");
        for (int l = 3; l < 59; l++) {
            x.bag(2, 1, 1);
        }
        is("the 60th", x.bag(2, 0, 24), 1);
        is("the 61st", x.bag(2, 0, 24), FULL);
        is("the 61st, a SEA", x.bag(3, 0, 24), KIND);
        is("the 61st, n 25", x.bag(2, 0, 25), BEYOND);
        is("how many", x.count(4), 60);
    }

    private static void lookIs() {
        of("Promise 26: what 0 .. 5");
        HoleWater x = ladder();
        x.way(0, 2, 1, 1);
        is("none at first", x.lookIs(0, 0), BEYOND);
        x.put(0, 3, 500);
        x.hours(2);
        x.bottle(2, 3);
        x.flood(true);
        x.bag(2, 1, 24);
        int[][] due = {{2, 3, 2, 0, 1, 0}, {2, 1, 2, 24, 0, 1}};
        for (int look = 0; look < 2; look++) {
            is("what -1", x.lookIs(look, -1), BEYOND);
            for (int what = 0; what < 6; what++) {
                is("lookIs(" + look + ", " + what + ")", x.lookIs(look, what), due[look][what]);
            }
            is("what 6", x.lookIs(look, 6), BEYOND);
            is("what 7", x.lookIs(look, 7), BEYOND);
        }
        of("Promise 26: LOOKS 0 .. the last");
        is("-1", x.lookIs(-1, 0), BEYOND);
        is("one beyond", x.lookIs(2, 0), BEYOND);
        of("Promise 26: at HOUR 999");
        late(x, 999);
        x.bottle(2, 0);
        is("the HOUR", x.lookIs(2, 2), 999);
    }

    private static void joined() {
        of("Promise 27: water 0 .. 2; BEYOND: JOINTS, water");
        HoleWater x = apart();
        is("-1", x.joined(0, 2, -1), BEYOND);
        is("0", x.joined(0, 2, 0), 0);
        is("2", x.joined(0, 2, 2), 0);
        is("3", x.joined(0, 2, 3), BEYOND);
        is("HOLE -1", x.joined(-1, 2, 0), BEYOND);
        is("HOLE 4", x.joined(4, 2, 0), BEYOND);
        is("SPRING -1", x.joined(0, -1, 0), BEYOND);
        is("SPRING 4", x.joined(0, 4, 0), BEYOND);
        of("Promise 27: KIND: no HOLE, no SPRING");
        is("a SPRING for a HOLE", x.joined(2, 3, 0), KIND);
        is("a HOLE for a SPRING", x.joined(0, 1, 0), KIND);
        is("a HOLE for a SPRING, 3", x.joined(0, 1, 3), BEYOND);
        HoleWater y = ladder();
        is("a ROOM for a HOLE", y.joined(1, 2, 0), KIND);
        is("a SEA for a SPRING", y.joined(0, 3, 0), KIND);
        is("a ROOM for a SPRING", y.joined(0, 1, 0), KIND);
        of("Promise 27: (0 .. 3)");
        x.put(0, 0, 100);
        x.bottle(2, 0);
        is("NOT YET", x.joined(0, 2, 0), 1);
        x.hours(2);
        x.bottle(2, 0);
        is("SURE", x.joined(0, 2, 0), 3);
        is("NOTHING", x.joined(1, 2, 0), 0);
        x.put(0, 1, 100);
        x.put(1, 1, 100);
        x.hours(2);
        x.bottle(2, 1);
        is("MAY", x.joined(1, 2, 0), 2);
    }

    private static void never() {
        of("Promise 28: how many LOOKS SAW nothing of a COLOUR that was put ahead of them");
        HoleWater x = apart();
        x.bottle(2, 0);
        is("a LOOK ahead of the PUT", x.never(0, 2), 0);
        x.put(0, 0, 100);
        is("none since", x.never(0, 2), 0);
        x.bottle(2, 0);
        is("one", x.never(0, 2), 1);
        x.bag(2, 0, 24);
        is("two, with a BAG", x.never(0, 2), 2);
        x.bottle(2, 1);
        is("another COLOUR", x.never(0, 2), 2);
        x.bottle(3, 0);
        is("another SPRING", x.never(0, 2), 2);
        is("that one", x.never(0, 3), 1);
        x.hours(2);
        x.bottle(2, 0);
        is("one that SAW", x.never(0, 2), 2);
        is("another HOLE", x.never(1, 2), 0);
        of("Promise 28: BEYOND, KIND as joined()");
        is("HOLE -1", x.never(-1, 2), BEYOND);
        is("HOLE 4", x.never(4, 2), BEYOND);
        is("SPRING 4", x.never(0, 4), BEYOND);
        is("a SPRING for a HOLE", x.never(2, 3), KIND);
        is("a HOLE for a SPRING", x.never(0, 1), KIND);
        is("a HOLE for a SPRING, HOLE 4", x.never(4, 1), BEYOND);
        of("Promise 28: all 60 LOOKS");
        HoleWater y = apart();
        y.put(0, 0, 1);
        for (int l = 0; l < 60; l++) {
            y.bottle(2, 0);
        }
        is("60", y.never(0, 2), 60);
        is("span: none of 60 SAW it", y.span(0, 2, 0, 1), NONE);
        is("share: none of 60 SAW it", y.share(0), 1);
    }

    private static void span() {
        of("Promise 29: STATE: it was not put just once, or elsewhere");
        HoleWater x = apart();
        is("never put", x.span(0, 2, 0, 1), STATE);
        x.hours(4);
        x.bottle(2, 0);
        x.put(0, 0, 100);
        is("put elsewhere", x.span(1, 2, 0, 1), STATE);
        of("Promise 29: NONE: no LOOK SAW it");
        is("no LOOK", x.span(0, 2, 0, 1), NONE);
        is("end 0, too", x.span(0, 2, 0, 0), NONE);
        of("Promise 29: from then to the first LOOK that SAW it (end 1)");
        x.hours(2);
        x.bottle(2, 0);
        is("2 HOURS", x.span(0, 2, 0, 1), 2);
        of("Promise 29: 0 without one (end 0)");
        is("one ahead of the PUT doesn't count", x.span(0, 2, 0, 0), 0);
        x.hours(1);
        x.bag(2, 0, 24);
        is("the first of two that SAW it", x.span(0, 2, 0, 1), 2);
        x.put(0, 0, 1);
        is("put twice in this HOLE", x.span(0, 2, 0, 1), STATE);
        of("Promise 29: to the latest LOOK ahead of that one that SAW nothing of it, since it was put (end 0)");
        HoleWater y = apart();
        y.put(0, 1, 100);
        y.bottle(2, 1);
        y.hours(1);
        y.bag(2, 1, 1);
        y.bottle(2, 0);
        y.bottle(3, 1);
        y.hours(2);
        y.bottle(2, 1);
        y.bag(2, 1, 9);
        y.bottle(2, 1);
        is("the first that SAW it: the BAG", y.span(0, 2, 1, 1), 3);
        is("the one just ahead, in the same HOUR", y.span(0, 2, 1, 0), 3);
        HoleWater z = apart();
        z.put(0, 1, 100);
        z.bottle(2, 1);
        z.hours(1);
        z.bottle(2, 1);
        z.bottle(3, 1);
        z.bottle(2, 2);
        z.hours(1);
        z.bottle(3, 1);
        z.bottle(2, 1);
        z.hours(1);
        z.bottle(2, 1);
        is("end 1", z.span(0, 2, 1, 1), 2);
        is("end 0", z.span(0, 2, 1, 0), 1);
        of("Promise 29: in the HOUR of the PUT");
        HoleWater w = apart();
        w.put(0, 2, 100);
        w.bottle(2, 2);
        w.hours(2);
        w.bottle(2, 2);
        is("end 0", w.span(0, 2, 2, 0), 0);
        is("end 1", w.span(0, 2, 2, 1), 2);
        w.put(1, 2, 1);
        is("put once in each of two HOLES", w.span(0, 2, 2, 1), STATE);
        of("Promise 29: by LOOK 0");
        HoleWater zero = apart();
        zero.hours(3);
        zero.put(0, 2, 100);
        zero.hours(2);
        zero.bottle(2, 2);
        is("it SAW: end 1", zero.span(0, 2, 2, 1), 2);
        is("it SAW: end 0", zero.span(0, 2, 2, 0), 0);
        HoleWater vain = apart();
        vain.put(0, 2, 100);
        vain.hours(1);
        vain.bottle(2, 2);
        vain.hours(2);
        vain.bag(2, 2, 9);
        is("it SAW nothing: end 1", vain.span(0, 2, 2, 1), 3);
        is("it SAW nothing: end 0", vain.span(0, 2, 2, 0), 1);
        of("Promise 29: BEYOND: JOINTS, COLOUR, end; KIND as joined()");
        is("HOLE -1", x.span(-1, 2, 1, 1), BEYOND);
        is("HOLE 4", x.span(4, 2, 1, 1), BEYOND);
        is("SPRING -1", x.span(0, -1, 1, 1), BEYOND);
        is("SPRING 4", x.span(0, 4, 1, 1), BEYOND);
        is("COLOUR -1", x.span(0, 2, -1, 1), BEYOND);
        is("COLOUR 3, never put", x.span(0, 2, 3, 1), STATE);
        is("COLOUR 4", x.span(0, 2, 4, 1), BEYOND);
        is("end -1", z.span(0, 2, 1, -1), BEYOND);
        is("end 2", z.span(0, 2, 1, 2), BEYOND);
        is("a SPRING for a HOLE", x.span(2, 3, 1, 1), KIND);
        is("a HOLE for a SPRING", x.span(0, 1, 1, 1), KIND);
        is("a HOLE for a SPRING, end 2", x.span(0, 1, 1, 2), BEYOND);
    }

    private static void musts() {
        of("Promise 30: SURE is SAID in FLOOD, and NOT YET out of it");
        HoleWater x = apart();
        x.put(0, 0, 100);
        x.put(1, 1, 100);
        is("nothing SAID", x.musts(0, 0), NONE);
        x.flood(true);
        x.hours(2);
        x.bottle(2, 0);
        is("SURE in FLOOD, NOTHING out of it", x.musts(0, 0), NONE);
        x.flood(false);
        x.hours(1);
        x.bottle(2, 0);
        is("NOT YET out of it", x.musts(0, 0), 0);
        is("the SPRING", x.musts(0, 1), 2);
        is("90 above 10", x.musts(0, 2), 80);
        of("Promise 30: the i-th pair (from 0; by HOLES, then SPRINGS)");
        is("i 1", x.musts(1, 0), NONE);
        x.bag(3, 1, 1);
        x.flood(true);
        x.bag(3, 1, 24);
        is("i 0", x.musts(0, 0), 0);
        is("i 1: the HOLE", x.musts(1, 0), 1);
        is("i 1: the SPRING", x.musts(1, 1), 3);
        is("i 1: 80 above 5", x.musts(1, 2), 75);
        is("i 2", x.musts(2, 0), NONE);
        x.flood(false);
        x.bag(2, 0, 24);
        is("SURE out of FLOOD, too: no more", x.musts(0, 0), 1);
        x.put(0, 1, 5);
        x.bag(3, 1, 24);
        is("MAY out of FLOOD: no more", x.musts(0, 0), NONE);
        of("Promise 30: SPRING 0 and the last HOLE");
        HoleWater y = new HoleWater();
        y.joint(SPRING, 0, 10);
        y.joint(HOLE, 0, 11);
        y.way(0, 100, 1, 1);
        y.put(1, 0, 100);
        y.bottle(0, 0);
        y.flood(true);
        y.hours(2);
        y.bottle(0, 0);
        is("the HOLE", y.musts(0, 0), 1);
        is("the SPRING", y.musts(0, 1), 0);
        is("11 above 10", y.musts(0, 2), 1);
        is("i 1", y.musts(1, 0), NONE);
        of("Promise 30: BEYOND: i below 0, what");
        is("i -1", x.musts(-1, 0), BEYOND);
        is("i MIN", x.musts(MIN, 0), BEYOND);
        is("i MAX", x.musts(MAX, 0), NONE);
        is("what -1", x.musts(0, -1), BEYOND);
        is("what 3", x.musts(0, 3), BEYOND);
    }

    private static void crosses() {
        of("Promise 31: SURE is SAID of a at x, and b at y");
        HoleWater x = apart();
        x.put(0, 0, 100);
        x.put(1, 1, 100);
        is("of neither", x.crosses(0, 2, 1, 3), 0);
        x.hours(2);
        x.bottle(2, 0);
        is("of one", x.crosses(0, 2, 1, 3), 0);
        is("of the other one", x.crosses(1, 3, 0, 2), 0);
        x.bottle(3, 1);
        is("of both", x.crosses(0, 2, 1, 3), 1);
        is("of both, turned", x.crosses(1, 3, 0, 2), 1);
        is("the SPRINGS changed", x.crosses(0, 3, 1, 2), 0);
        of("Promise 31: neither SURE nor MAY of a at y, and b at x");
        x.bottle(3, 0);
        is("NOT YET of a at y", x.crosses(0, 2, 1, 3), 1);
        x.bottle(2, 1);
        is("NOT YET of b at x", x.crosses(0, 2, 1, 3), 1);
        x.image();
        x.put(1, 0, 100);
        x.bottle(2, 0);
        is("MAY of b at x", x.crosses(0, 2, 1, 3), 0);
        is("the other way round", x.crosses(1, 3, 0, 2), 0);
        x.restore();
        x.way(0, 3, 1, 1);
        x.put(0, 2, 100);
        x.hours(2);
        is("50 come to y", x.bottle(3, 2), 50);
        is("SURE of a at y", x.crosses(0, 2, 1, 3), 0);
        of("Promise 31: BEYOND: no such JOINTS, a is b, x is y");
        for (int j : new int[] {-1, 4}) {
            is("a " + j, x.crosses(j, 2, 1, 3), BEYOND);
            is("x " + j, x.crosses(0, j, 1, 3), BEYOND);
            is("b " + j, x.crosses(0, 2, j, 3), BEYOND);
            is("y " + j, x.crosses(0, 2, 1, j), BEYOND);
        }
        is("a is b", x.crosses(0, 2, 0, 3), BEYOND);
        is("x is y", x.crosses(0, 2, 1, 2), BEYOND);
        is("a is b, no HOLE", x.crosses(2, 2, 2, 3), BEYOND);
        is("x is y, no SPRING", x.crosses(0, 0, 1, 0), BEYOND);
        of("Promise 31: KIND");
        is("a is no HOLE", x.crosses(2, 3, 1, 2), KIND);
        is("x is no SPRING", x.crosses(0, 1, 1, 3), KIND);
        is("b is no HOLE", x.crosses(0, 2, 3, 3), KIND);
        is("y is no SPRING", x.crosses(0, 2, 1, 0), KIND);
    }

    private static void crossesInDetail() {
        of("Promise 31: the ends of each on unlike sides of the other, none on it");
        // HOLE 0, HOLE 1, SPRING 2, SPRING 3, whether 0 to 2 and 1 to 3 cross
        int[][] places = {
            {0, 99, 99, 99, 99, 0, 0, 0, 1}, {0, 99, 99, 99, 0, 0, 99, 0, 0}, {20, 60, 60, 60, 60, 20, 20, 20, 1},
            {20, 60, 60, 60, 40, 40, 20, 20, 0}, {20, 60, 60, 60, 41, 39, 20, 20, 1}, {20, 60, 60, 60, 39, 41, 20, 20, 0},
            {20, 60, 40, 40, 60, 20, 20, 20, 0}, {20, 60, 41, 41, 60, 20, 20, 20, 1}, {20, 60, 39, 39, 60, 20, 20, 20, 0},
            {20, 60, 60, 60, 60, 20, 40, 40, 0}, {20, 60, 60, 60, 60, 20, 39, 39, 1}, {20, 60, 60, 60, 60, 20, 41, 41, 0},
            {50, 50, 50, 60, 50, 10, 50, 20, 0}, {50, 60, 50, 60, 10, 10, 90, 10, 0}, {10, 60, 90, 60, 50, 10, 50, 10, 0},
            {5, 5, 3, 5, 6, 2, 6, 3, 1}, {2, 3, 3, 3, 6, 2, 7, 0, 1}, {5, 4, 4, 4, 3, 3, 4, 1, 1}, {3, 2, 3, 4, 6, 1, 5, 1, 1},
            {40, 40, 60, 60, 60, 20, 20, 20, 0}, {39, 41, 60, 60, 60, 20, 20, 20, 1}, {41, 39, 60, 60, 60, 20, 20, 20, 0}};
        for (int[] p : places) {
            HoleWater x = new HoleWater();
            x.joint(HOLE, p[0], p[1]);
            x.joint(HOLE, p[2], p[3]);
            x.joint(SPRING, p[4], p[5]);
            x.joint(SPRING, p[6], p[7]);
            x.way(0, 2, 1, 1);
            x.way(0, 103, 1, 1);
            x.put(0, 0, 50);
            x.put(1, 1, 50);
            x.hours(2);
            is("SURE of the first", x.bottle(2, 0), 50);
            is("SURE of the second", x.bottle(3, 1), 50);
            is("crosses of " + java.util.Arrays.toString(p), x.crosses(0, 2, 1, 3), p[8]);
            is("turned, of " + java.util.Arrays.toString(p), x.crosses(1, 3, 0, 2), p[8]);
        }
    }

    private static void rooms() {
        of("Promise 32: BEYOND: bits of no JOINTS");
        HoleWater x = new HoleWater();
        is("no JOINTS, no bits", x.rooms(0, 0), 0);
        is("no JOINTS, bit 0", x.rooms(1, 0), BEYOND);
        for (int j = 0; j < 16; j++) {
            x.joint(j < 8 ? HOLE : SPRING, j, j < 8 ? 90 : 10);
        }
        is("bit 15", x.rooms(0, 1 << 15), 0);
        is("bit 16", x.rooms(0, 1 << 16), BEYOND);
        is("bit 16 of HOLES", x.rooms(1 << 16, 0), BEYOND);
        is("bit 31", x.rooms(MIN, 0), BEYOND);
        is("bit 31 of SPRINGS", x.rooms(0, MIN), BEYOND);
        of("Promise 32: KIND: of other sorts");
        is("a HOLE for a SPRING", x.rooms(0, 1 << 7), KIND);
        is("a SPRING for a HOLE", x.rooms(1 << 8, 0), KIND);
        is("bit 16 is asked first", x.rooms(1 << 8, 1 << 16), BEYOND);
        of("Promise 32: FULL: more than 5 of one");
        is("5 and 5", x.rooms(31, 31 << 8), 0);
        is("5 others", x.rooms(31 << 3, 31 << 11), 0);
        is("6 HOLES", x.rooms(63, 31 << 8), FULL);
        is("6 SPRINGS", x.rooms(31, 63 << 8), FULL);
        is("6 HOLES, no SPRINGS", x.rooms(63, 0), FULL);
        is("no HOLES, 6 SPRINGS", x.rooms(0, 63 << 8), FULL);
        is("all of both", x.rooms(255, 255 << 8), FULL);
        is("6 SPRINGS and a HOLE among them", x.rooms(1, 63 << 7), KIND);
        of("Promise 32: the greatest numbers of JOINTS");
        x.way(0, 715, 1, 1);
        x.put(7, 3, 100);
        x.hours(2);
        x.bottle(15, 3);
        is("HOLE 7 with SPRING 15", x.rooms(31 << 3, 31 << 11), 1);
        is("without SPRING 15", x.rooms(31 << 3, 31 << 10), 0);
    }

    private static void town() {
        of("Promise 33: 1 if it was, else 0");
        HoleWater x = ladder();
        is("at first", x.town(2, true), 0);
        is("again", x.town(2, true), 1);
        is("no more", x.town(2, false), 1);
        is("still", x.town(2, false), 0);
        of("Promise 33: BEYOND, KIND");
        is("-1", x.town(-1, true), BEYOND);
        is("4", x.town(4, true), BEYOND);
        is("a HOLE", x.town(0, true), KIND);
        is("a ROOM", x.town(1, true), KIND);
        is("a SEA", x.town(3, true), KIND);
        HoleWater y = new HoleWater();
        for (int j = 0; j < 16; j++) {
            y.joint(SPRING, 0, 0);
        }
        y.town(15, true);
        y.town(0, true);
        is("JOINT 15", y.jointIs(15, 6), 1);
        is("JOINT 0", y.jointIs(0, 6), 1);
        is("JOINT 14", y.jointIs(14, 6), 0);
    }

    private static void night() {
        of("Promise 34: HOLES (1 .. 4) and SPRINGS (1 .. 6); what 0 .. 2");
        HoleWater x = new HoleWater();
        for (int j = 0; j < 16; j++) {
            x.joint(j < 8 ? SPRING : HOLE, j, j < 8 ? 10 : 90);
        }
        is("0 HOLES", x.night(0, 1, 0), BEYOND);
        is("1 HOLE", x.night(1, 1, 0), 1);
        is("4 HOLES", x.night(4, 1, 0), 4);
        is("5 HOLES", x.night(5, 1, 0), BEYOND);
        is("0 SPRINGS", x.night(1, 0, 0), BEYOND);
        is("6 SPRINGS", x.night(1, 6, 0), 6);
        is("7 SPRINGS", x.night(1, 7, 0), BEYOND);
        is("what -1", x.night(4, 6, -1), BEYOND);
        is("what 0", x.night(4, 6, 0), 24);
        is("what 1", x.night(4, 6, 1), 15 << 8);
        is("what 2", x.night(4, 6, 2), 63);
        is("what 3", x.night(4, 6, 3), BEYOND);
        of("Promise 34: NONE: there are not so many");
        HoleWater y = ladder();
        is("1 and 1", y.night(1, 1, 0), 1);
        is("2 HOLES of 1", y.night(2, 1, 0), NONE);
        is("2 SPRINGS of 1", y.night(1, 2, 0), NONE);
        is("5 HOLES of 1", y.night(5, 1, 0), BEYOND);
        is("7 SPRINGS of 1", y.night(1, 7, 0), BEYOND);
        of("Promise 34: the greatest numbers of JOINTS");
        for (int j = 8; j < 12; j++) {
            x.put(j, j - 8, 1);
        }
        for (int s = 0; s < 8; s++) {
            for (int c = 0; c < 4; c++) {
                x.bottle(s, c);
            }
        }
        is("HOLES 12 .. 15", x.night(4, 6, 1), 15 << 12);
        is("24 pairs", x.night(4, 6, 0), 24);
        x.put(12, 0, 1);
        for (int s = 0; s < 6; s++) {
            x.bottle(s, 0);
        }
        is("12 only at SPRINGS 6, 7: 20 pairs", x.night(4, 6, 0), 20);
        is("SPRINGS 6, 7 and the least", x.night(4, 6, 2), 15 + (3 << 6));
    }

    private static void share() {
        of("Promise 35: less those that BOTTLES SAW (each HOUR of a SPRING once)");
        HoleWater x = apart();
        is("nothing put", x.share(0), 0);
        x.put(0, 0, 20);
        is("none SEEN", x.share(0), 20);
        x.hours(1);
        x.put(0, 0, 4);
        x.hours(1);
        is("the bottle", x.bottle(2, 0), 20);
        is("SEEN", x.share(0), 4);
        x.bottle(2, 0);
        is("the same HOUR again", x.share(0), 4);
        x.hours(1);
        is("the next HOUR: 4 aren't SEEN", x.bottle(2, 0), 0);
        is("they don't count", x.share(0), 4);
        x.bag(2, 0, 24);
        is("a BAG doesn't count", x.share(0), 4);
        Due.text(x, 1, "1");
        is("now they are SEEN", x.bottle(2, 0), 4);
        is("all SEEN", x.share(0), 0);
        x.put(1, 0, 9);
        x.hours(2);
        x.bottle(3, 0);
        is("of another SPRING", x.share(0), 0);
        is("another COLOUR", x.share(1), 0);
        of("Promise 35: in one HOUR at two SPRINGS: both count");
        HoleWater y = apart();
        y.put(0, 3, 30);
        y.put(1, 3, 40);
        y.hours(2);
        y.bottle(2, 3);
        y.bottle(3, 3);
        is("share(3)", y.share(3), 0);
        of("Promise 35: BEYOND");
        is("-1", x.share(-1), BEYOND);
        is("4", x.share(4), BEYOND);
    }

    private static void voice() {
        of("Promise 36: VOICES 0 .. 3 of WAYS 0 .. the last");
        HoleWater x = ladder();
        x.way(0, 1, 4, 9);
        x.way(2, 1, 4, 9);
        is("way -1", x.voice(-1, 0, 1), BEYOND);
        is("way 1", x.voice(1, 0, 1), 5);
        is("way 2", x.voice(2, 0, 1), BEYOND);
        is("act -1", x.voice(0, -1, 1), BEYOND);
        is("act 0", x.voice(0, 0, 1), 5);
        is("act 3", x.voice(0, 3, 11), 2);
        is("act 4", x.voice(0, 4, 1), BEYOND);
        of("Promise 36: PARTED is all that voice() answers, nothing but THE TRACE is otherwise");
        for (int part = 0; part < Scene.PARTS; part++) {
            HoleWater before = Scene.RICH.make();
            before.way(3, 306, 6, 6);
            HoleWater after = Scene.RICH.make();
            after.way(3, 306, 6, 6);
            is("PARTED", after.voice(10, 3, 1), PARTED);
            is("THE TRACE", after.trace(0) * 100 + after.trace(1), 2113);
            // a VOICE that isn't PARTED, so that THE TRACE is the same again
            before.voice(0, 1, 1);
            after.voice(0, 1, 1);
            is("part " + part, Scene.told(after, part).equals(Scene.told(before, part)) ? 1 : 0, 1);
            is("told(6)", after.told(6) - before.told(6), 1);
        }
        of("Promise 36: a VOICE that comes to the number of an ERROR is none");
        is("-1000001", x.voice(0, 0, -1000005), -1000001);
        is("told(1)", x.told(1), 4);
        is("-1000006", x.voice(0, 0, -1000010), -1000006);
        is("told(6)", x.told(6), 0);
    }

    private static void trace() {
        of("Promise 37: NONE: there is none such");
        HoleWater x = ladder();
        is("none at first", x.trace(0), NONE);
        x.way(0, 1, 4, 9);
        x.voice(0, 2, 1);
        is("-1", x.trace(-1), NONE);
        is("0", x.trace(0), 12);
        is("1", x.trace(1), 11);
        is("2", x.trace(2), 10);
        is("3", x.trace(3), NONE);
        is("29", x.trace(29), NONE);
        is("30", x.trace(30), NONE);
        is("MIN", x.trace(MIN), NONE);
        is("MAX", x.trace(MAX), NONE);
        x.voice(0, 0, 1);
        is("a shorter one: 0", x.trace(0), 10);
        is("a shorter one: 1", x.trace(1), NONE);
        is("told(2)", x.told(2), 8);
    }

    private static void sheet() {
        of("Promise 38: so many bits (8, 16, 32; 0: it is missing, n doesn't matter): 1");
        HoleWater x = ladder();
        for (int bits = -1; bits <= 65; bits++) {
            boolean taken = bits == 0 || bits == 8 || bits == 16 || bits == 32;
            is("bits " + bits, x.sheet(0, bits, 1), taken ? 1 : BEYOND);
        }
        for (int n : new int[] {-1, 0, 24, 25, MIN, MAX}) {
            is("8 bits", x.sheet(0, 8, 1), 1);
            is("missing, n " + n, x.sheet(0, 0, n), 1);
            is("it is missing", x.place(0, 0, 1), NONE);
        }
        of("Promise 38: n numbers, all 0");
        is("n 24", x.sheet(1, 32, 24), 1);
        for (int i = 0; i < 24; i++) {
            x.place(1, i, 5);
        }
        is("again", x.sheet(1, 32, 24), 1);
        is("all 0, first", x.pours(0, 0, 1, 0, 9), 0);
        is("all 0, last", x.pours(0, 0, 1, 15, 9), 0);
        is("n 0", x.sheet(1, 32, 0), 1);
        is("no number", x.place(1, 0, 1), BEYOND);
        is("n 1", x.sheet(1, 32, 1), 1);
        is("one number", x.place(1, 0, 1), 1);
        is("no second", x.place(1, 1, 1), BEYOND);
        of("Promise 38: BEYOND; STATE: n is below 0 (ahead of BEYOND of n)");
        is("n 25", x.sheet(1, 32, 25), BEYOND);
        is("n MAX", x.sheet(1, 32, MAX), BEYOND);
        is("n -1", x.sheet(1, 32, -1), STATE);
        is("n MIN", x.sheet(1, 32, MIN), STATE);
        is("n -1 of a wrong SHEET", x.sheet(4, 32, -1), BEYOND);
        is("n -1 of wrong bits", x.sheet(1, 31, -1), BEYOND);
        is("the SHEET stays", x.pours(0, 0, 1, 0, 1), 1);
    }

    private static void place() {
        of("Promise 39: BEYOND: no such SHEET. NONE: it is missing. BEYOND: no such number");
        HoleWater x = ladder();
        x.sheet(3, 8, 3);
        is("SHEET -1", x.place(-1, 0, 1), BEYOND);
        is("SHEET 3", x.place(3, 0, 1), 1);
        is("SHEET 4", x.place(4, 0, 1), BEYOND);
        is("missing", x.place(2, 0, 1), NONE);
        is("missing, no such number", x.place(2, -1, 1), NONE);
        is("number -1", x.place(3, -1, 1), BEYOND);
        is("number 2", x.place(3, 2, 1), 1);
        is("number 3", x.place(3, 3, 1), BEYOND);
        of("Promise 39: v (its lowest bits)");
        int[][] cases = {{8, 0x7F, 127}, {8, 0x17F, 127}, {8, 0x100, 0}, {8, 0x80, 0}, {8, -256 + 9, 9}, {16, 0x10001, 1}, {16, 0x2000 + 0x10000, 0x2000},
            {16, 0x8000, 0}, {32, 0x10001, 0}, {32, 9999, 9999}};
        for (int[] c : cases) {
            HoleWater y = ladder();
            y.sheet(0, c[0], 1);
            y.place(0, 0, c[1]);
            y.pours(0, 0, 0, 0, 1);
            is(c[1] + " in " + c[0] + " bits", y.stuff(0, 0), c[2]);
        }
    }

    /** The numbers of a SHEET that can be put, in their order. */
    private static List<Integer> numbers(HoleWater x, int sheet, int n) {
        x.image();
        int ahead = x.count(3);
        List<Integer> all = new java.util.ArrayList<>();
        for (int i = 0; i < n; i++) {
            x.pours(0, 0, sheet, i, 1);
        }
        for (int p = ahead; p < x.count(3); p++) {
            all.add(x.putIs(p, 2));
        }
        x.restore();
        return all;
    }

    private static void move() {
        of("Promise 40: n numbers, from number i on, come to another one, from its number j on: n");
        HoleWater x = counted();
        x.sheet(1, 32, 5);
        is("n 0", x.move(0, 0, 1, 0, 0), 0);
        is("all 5, from the last on", x.move(0, 7, 1, 0, 5), 5);
        is("they came", numbers(x, 1, 5).equals(List.of(8, 9, 10, 11, 12)) ? 1 : 0, 1);
        is("one, the last to the last", x.move(0, 11, 1, 4, 1), 1);
        is("one, the first to the last", x.move(0, 0, 1, 4, 1), 1);
        is("it came", numbers(x, 1, 5).equals(List.of(8, 9, 10, 11, 1)) ? 1 : 0, 1);
        is("n 0 at both ends", x.move(0, 12, 1, 5, 0), 0);
        of("Promise 40: (or the same), as they all were");
        HoleWater y = counted();
        is("up by 1", y.move(0, 0, 0, 1, 11), 11);
        is("as they were", numbers(y, 0, 12).equals(List.of(1, 1, 2, 3, 4, 5, 6, 7, 8, 9, 10, 11)) ? 1 : 0, 1);
        is("down by 1", y.move(0, 1, 0, 0, 11), 11);
        is("as they were", numbers(y, 0, 12).equals(List.of(1, 2, 3, 4, 5, 6, 7, 8, 9, 10, 11, 11)) ? 1 : 0, 1);
        is("where they are", y.move(0, 0, 0, 0, 12), 12);
        is("as they were", numbers(y, 0, 12).equals(List.of(1, 2, 3, 4, 5, 6, 7, 8, 9, 10, 11, 11)) ? 1 : 0, 1);
        of("Promise 40: BEYOND: n, i, or j is below 0, or they don't stand there");
        is("n -1", x.move(0, 0, 1, 0, -1), BEYOND);
        is("i -1", x.move(0, -1, 1, 0, 1), BEYOND);
        is("j -1", x.move(0, 0, 1, -1, 1), BEYOND);
        is("n 0, i -1", x.move(0, -1, 1, 0, 0), BEYOND);
        is("n 0, j -1", x.move(0, 0, 1, -1, 0), BEYOND);
        is("n 0, i 13", x.move(0, 13, 1, 0, 0), BEYOND);
        is("n 0, j 6", x.move(0, 0, 1, 6, 0), BEYOND);
        is("5 from 8 on", x.move(0, 8, 1, 0, 5), BEYOND);
        is("5 to 1 on", x.move(0, 0, 1, 1, 5), BEYOND);
        is("6", x.move(0, 0, 1, 0, 6), BEYOND);
        is("n MAX, i 1", x.move(0, 1, 1, 0, MAX), BEYOND);
        is("i MAX, n 1", x.move(0, MAX, 1, 0, 1), BEYOND);
        is("j MAX, n MAX", x.move(0, 0, 1, MAX, MAX), BEYOND);
        is("nothing moved", numbers(x, 1, 5).equals(List.of(8, 9, 10, 11, 1)) ? 1 : 0, 1);
        of("Promise 40: BEYOND: no such SHEET. NONE: one is missing. KIND: they are of unlike bits");
        is("SHEET -1", x.move(-1, 0, 1, 0, 1), BEYOND);
        is("SHEET 4", x.move(4, 0, 1, 0, 1), BEYOND);
        is("to SHEET -1", x.move(0, 0, -1, 0, 1), BEYOND);
        is("to SHEET 4", x.move(0, 0, 4, 0, 1), BEYOND);
        is("from a missing one", x.move(3, 0, 0, 0, 1), NONE);
        is("to a missing one", x.move(0, 0, 3, 0, 1), NONE);
        is("from a missing one to none", x.move(3, 0, 4, 0, 1), BEYOND);
        int[] bits = {8, 16, 32};
        for (int from : bits) {
            for (int to : bits) {
                x.sheet(2, from, 2);
                x.sheet(3, to, 2);
                is("of " + from + " to " + to + " bits", x.move(2, 0, 3, 0, 1), from == to ? 1 : KIND);
                is("of " + from + " to " + to + " bits, n -1", x.move(2, 0, 3, 0, -1), from == to ? BEYOND : KIND);
            }
        }
        x.sheet(2, 8, 0);
        x.sheet(3, 8, 0);
        is("of empty ones, n 0", x.move(2, 0, 3, 0, 0), 0);
        is("of empty ones, n 1", x.move(2, 0, 3, 0, 1), BEYOND);
    }

    private static void image() {
        of("Promise 41: how often that was done");
        HoleWater x = ladder();
        is("1", x.image(), 1);
        is("2", x.image(), 2);
        x.restore();
        is("restore() doesn't count, nor set it back", x.image(), 3);
        of("Promise 41: in place of one ahead");
        x.joint(ROOM, 1, 1);
        is("the new one", x.image(), 4);
        x.joint(ROOM, 1, 1);
        x.restore();
        is("count(1)", x.count(1), 5);
        of("Promise 41: but SHEETS, THE TRACE, what told() tells, and how often this was done");
        HoleWater y = ladder();
        y.way(0, 1, 1, 1);
        y.sheet(0, 8, 1);
        y.voice(0, 0, 1);
        y.image();
        y.sheet(0, 8, 3);
        y.place(0, 2, 9);
        y.voice(0, 2, 1);
        y.told(0);
        y.restore();
        is("SHEETS", y.pours(0, 0, 0, 2, 1), 1);
        is("THE TRACE", y.count(8), 3);
        is("told(1)", y.told(1), 1);
        is("how often", y.image(), 2);
        of("Promise 41: the IMAGE of a full object");
        for (int part = 0; part < 6; part++) {
            HoleWater full = Scene.FULL.make();
            full.image();
            full.check(8);
            full.text(0);
            full.restore();
            is("part " + part, Scene.told(full, part).equals(Scene.told(Scene.FULL.make(), part)) ? 1 : 0, 1);
        }
    }

    /** A rich object of which an IMAGE was made, then much was changed, then the IMAGE brought back. */
    private static HoleWater setBack() {
        HoleWater x = Scene.RICH.make();
        x.image();
        x.joint(HOLE, 1, 99);
        x.way(0, 903, 2, 2);
        x.put(9, 3, 900);
        x.fade(0, 30);
        x.town(5, true);
        x.flood(false);
        x.hours(40);
        x.bottle(7, 3);
        Due.text(x, 0, "1");
        Due.text(x, 0, "1");
        Due.text(x, 1, "1");
        x.check(5);
        x.restore();
        return x;
    }

    private static void restore() {
        of("Promise 42: NONE: there is none");
        HoleWater x = ladder();
        is("none", x.restore(), NONE);
        x.hours(7);
        x.image();
        of("Promise 42: All is as the IMAGE has it, which stays: NOW");
        x.hours(5);
        is("NOW", x.restore(), 7);
        is("at once", x.restore(), 7);
        x.hours(60);
        is("again", x.restore(), 7);
        of("Promise 42: what went on since isn't there any more");
        for (int part = 0; part < Scene.PARTS; part++) {
            HoleWater y = Scene.RICH.make();
            y.image();
            is("part " + part, Scene.told(setBack(), part).equals(Scene.told(y, part)) ? 1 : 0, 1);
        }
        HoleWater y = Scene.RICH.make();
        y.image();
        HoleWater z = setBack();
        is("hours", z.hours(30), y.hours(30));
        is("later", Scene.told(z, 3).equals(Scene.told(y, 3)) ? 1 : 0, 1);
        of("Promise 42: JOINTS and WAYS that are new again");
        HoleWater w = ladder();
        w.image();
        w.way(0, 2, 5, 1);
        w.joint(SPRING, 1, 1);
        w.way(4, 4, 5, 9);
        w.put(0, 0, 100);
        w.hours(12);
        w.town(4, true);
        w.restore();
        is("the number", w.way(0, 2, 5, 1), 0);
        is("nothing in it", w.wayIs(0, 6), 0);
        is("the number", w.joint(SPRING, 1, 1), 4);
        is("nothing OUT", w.jointIs(4, 5), 0);
        is("no TOWN", w.jointIs(4, 6), 0);
        is("the number", w.way(4, 4, 5, 9), 1);
        is("nothing HELD", w.wayIs(1, 6), 0);
        is("no GRAINS", w.stuff(0, 1), 0);
        for (int ago = 1; ago <= 12; ago++) {
            is("no GRAINS OUT", w.out(2, 0, ago), 0);
        }
    }

    private static void tell() {
        of("Promise 43: how many; FULL: 24 wait");
        HoleWater x = ladder();
        for (int i = 1; i <= 24; i++) {
            is("tell " + i, x.tell(i % 2 == 0 ? MIN : MAX), i);
        }
        is("the 25th", x.tell(0), FULL);
        is("the 26th", x.tell(0), FULL);
        is("count(7)", x.count(7), 24);
        is("told(4)", x.told(4), 2);
        x.check(2);
        is("none wait", x.tell(7), 1);
    }

    private static void check() {
        of("Promise 44: 0; else 1 and the place of the first that isn't");
        HoleWater x = ladder();
        x.way(0, 2, 2, 1);
        is("none wait", x.check(2), 0);
        int[] water = {0, 0, 10, 10, 10, 10, 10, 10, 10, 10, 10, 10, 10, 10, 10, 10, 10, 10, 10, 10, 10, 10, 10, 10};
        for (int wrong = 0; wrong <= 24; wrong++) {
            HoleWater y = ladder();
            y.way(0, 2, 2, 1);
            for (int i = 0; i < 24; i++) {
                y.tell(i == wrong ? water[i] + 1 : water[i]);
            }
            is("number " + wrong + " isn't", y.check(2), wrong == 24 ? 0 : wrong + 1);
        }
        x.tell(1);
        x.tell(1);
        is("of two the first", x.check(2), 1);
        x.tell(MIN);
        is("the least", x.check(2), 1);
        x.tell(-1);
        is("-1", x.check(2), 1);
        of("Promise 44: (none do then)");
        is("count(7)", x.count(7), 0);
        x.tell(0);
        is("one that is", x.check(2), 0);
        is("count(7)", x.count(7), 0);
        of("Promise 44: BEYOND, KIND (none wait then, too)");
        for (int j : new int[] {-1, 4, MIN, MAX, 0, 1}) {
            x.tell(0);
            is("check(" + j + ")", x.check(j), j == 0 || j == 1 ? KIND : BEYOND);
            is("none wait", x.count(7), 0);
        }
        is("a SEA", x.check(3), 0);
        of("Promise 44: BEYOND, KIND: nothing else changes");
        for (int part = 0; part < Scene.PARTS; part++) {
            HoleWater before = Scene.RICH.make();
            HoleWater beyond = Scene.RICH.make();
            HoleWater kind = Scene.RICH.make();
            before.check(5);
            beyond.check(9);
            kind.check(3);
            List<Integer> due = Scene.told(before, part);
            is("part " + part, Scene.told(beyond, part).equals(due) ? 1 : 0, 1);
            is("part " + part, Scene.told(kind, part).equals(due) ? 1 : 0, 1);
            is("told(1)", beyond.told(1) - before.told(1), 1);
            is("told(5)", kind.told(5) - before.told(5), 1);
        }
        of("Promise 44: HOURS beyond 999 as of spill()");
        HoleWater z = ladder();
        z.way(0, 2, 1, 1);
        late(z, 999);
        Due.text(z, 0, "d");
        int[] rain = {10, 41, 41, 41, 41, 41, 41, 41, 41, 41, 42, 42};
        for (int v : rain) {
            z.tell(v);
        }
        is("RAIN of HOURS 999 .. 1007, 1008", z.check(2), 0);
        is("NOW", z.count(0), 999);
    }

    private static void count() {
        of("Promise 45: what 0 .. 11");
        HoleWater x = new HoleWater();
        is("-1", x.count(-1), BEYOND);
        for (int what = 0; what < 12; what++) {
            is("at first, " + what, x.count(what), 0);
        }
        is("12", x.count(12), BEYOND);
        of("Promise 45: all of a full object");
        HoleWater full = Scene.FULL.make();
        int[] due = {999, 16, 24, 40, 60, -1, 60, 24, 3, 1};
        for (int what = 0; what < 10; what++) {
            if (what != 5) {
                is("count(" + what + ")", full.count(what), due[what]);
            }
        }
        int saw = 0;
        for (int l = 0; l < 60; l++) {
            saw += full.lookIs(l, 4);
        }
        is("count(5)", full.count(5), saw);
        of("Promise 45: WATER that was LOST ever, and at JOINTS, in WAYS, HELD");
        int out = 0;
        for (int j = 8; j < 16; j++) {
            out += full.jointIs(j, 5);
        }
        // 6 HOLES, 10 each HOUR
        is("all WATER of 999 HOURS", full.count(10) + full.count(11) + out, 999 * 60);
    }

    private static void told() {
        of("Promise 46: k 1 .. 6; BEYOND: another k (counted, too)");
        HoleWater x = ladder();
        for (int k = 1; k <= 6; k++) {
            is("at first, " + k, x.told(k), 0);
        }
        is("0", x.told(0), BEYOND);
        is("counted", x.told(1), 1);
        is("7", x.told(7), BEYOND);
        is("counted", x.told(1), 2);
        is("MIN", x.told(MIN), BEYOND);
        is("MAX", x.told(MAX), BEYOND);
        is("counted", x.told(1), 4);
        of("Promise 46: how many acts have answered an ERROR");
        x.restore();
        x.trace(0);
        x.trace(0);
        is("NONE", x.told(2), 3);
        x.sheet(0, 8, -1);
        is("STATE", x.told(3), 1);
        for (int i = 0; i < 30; i++) {
            x.tell(i);
        }
        is("FULL", x.told(4), 6);
        x.rain(1);
        is("KIND", x.told(5), 1);
        x.way(0, 1, 3, 3);
        x.voice(0, 3, 1);
        is("PARTED", x.told(6), 1);
        is("BEYOND, none of these", x.told(1), 4);
    }
}
