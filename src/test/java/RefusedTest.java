import java.util.ArrayList;
import java.util.List;

/**
 * "One that answers an ERROR changes nothing but what told() tells": each refused call, at the first value that is not
 * taken and far beyond, with the ERROR that is due and the order in which ERRORS are asked; then a wide asking (what
 * there is, what comes, the IMAGE) answers as on an object that was never called so.
 */
public final class RefusedTest {
    private static final int BEYOND = Due.BEYOND;
    private static final int NONE = Due.NONE;
    private static final int STATE = Due.STATE;
    private static final int FULL = Due.FULL;
    private static final int KIND = Due.KIND;
    private static final int MIN = Integer.MIN_VALUE;
    private static final int MAX = Integer.MAX_VALUE;
    private static final int[] NOT_COLOURS = {-1, 4, MIN, MAX};
    private static final Due DUE = new Due();

    private interface Call {
        int on(HoleWater x);
    }

    private record Refused(String name, int due, Call call) { }

    private final Scene scene;
    private final List<Refused> calls = new ArrayList<>();
    private final List<List<Integer>> untouched = new ArrayList<>();
    private final int[] toldAhead = new int[7];

    private RefusedTest(Scene scene) {
        this.scene = scene;
        for (int part = 0; part < Scene.PARTS; part++) {
            untouched.add(Scene.told(scene.make(), part));
        }
        for (int k = 1; k <= 6; k++) {
            toldAhead[k] = scene.make().told(k);
        }
    }

    public static void main(String[] args) {
        RefusedTest rich = new RefusedTest(Scene.RICH);
        rich.jointsAndWays();
        rich.waterAndColours();
        rich.texts();
        rich.looks();
        rich.pairs();
        rich.voicesAndSheets();
        rich.run();
        RefusedTest full = new RefusedTest(Scene.FULL);
        full.noRoom();
        full.aheadOfNoRoom();
        full.run();
        RefusedTest empty = new RefusedTest(Scene.EMPTY);
        empty.nothingThere();
        empty.run();
        DUE.end();
    }

    private void add(String name, int due, Call call) {
        calls.add(new Refused(name, due, call));
    }

    private void run() {
        for (Refused refused : calls) {
            DUE.of(scene + " " + refused.name);
            for (int part = 0; part < Scene.PARTS; part++) {
                HoleWater x = scene.make();
                DUE.is("the call", refused.call.on(x), refused.due);
                List<Integer> after = Scene.told(x, part);
                List<Integer> due = untouched.get(part);
                DUE.is("how much part " + part + " tells", after.size(), due.size());
                for (int i = 0; i < Math.min(after.size(), due.size()); i++) {
                    DUE.is("part " + part + ", number " + i, after.get(i), due.get(i));
                }
            }
            HoleWater x = scene.make();
            refused.call.on(x);
            for (int k = 1; k <= 6; k++) {
                DUE.is("told(" + k + ")", x.told(k), toldAhead[k] + (-1000000 - k == refused.due ? 1 : 0));
            }
        }
    }

    private void jointsAndWays() {
        for (int v : new int[] {-1, MIN, MAX}) {
            add("joint(" + v + ", 0, 0)", BEYOND, x -> x.joint(v, 0, 0));
            add("joint(0, " + v + ", 0)", BEYOND, x -> x.joint(0, v, 0));
            add("joint(0, 0, " + v + ")", BEYOND, x -> x.joint(0, 0, v));
            add("jointIs(" + v + ", 0)", BEYOND, x -> x.jointIs(v, 0));
            add("jointIs(0, " + v + ")", BEYOND, x -> x.jointIs(0, v));
            add("way(" + v + ", 3, 1, 1)", BEYOND, x -> x.way(v, 3, 1, 1));
            add("way(0, " + v + ", 1, 1)", BEYOND, x -> x.way(0, v, 1, 1));
            add("way(0, 3, " + v + ", 1)", BEYOND, x -> x.way(0, 3, v, 1));
            add("way(0, 3, 1, " + v + ")", BEYOND, x -> x.way(0, 3, 1, v));
            add("as(" + v + ", 0)", BEYOND, x -> x.as(v, 0));
            add("as(0, " + v + ")", BEYOND, x -> x.as(0, v));
            add("wayIs(" + v + ", 0)", BEYOND, x -> x.wayIs(v, 0));
            add("wayIs(0, " + v + ")", BEYOND, x -> x.wayIs(0, v));
            add("hangs(" + v + ", true)", BEYOND, x -> x.hangs(v, true));
            add("hangs(" + v + ", false)", BEYOND, x -> x.hangs(v, false));
            add("quick(" + v + ", 0)", BEYOND, x -> x.quick(v, 0));
            add("quick(0, " + v + ")", BEYOND, x -> x.quick(0, v));
        }
        add("joint(4, 0, 0)", BEYOND, x -> x.joint(4, 0, 0));
        add("joint(0, 100, 0)", BEYOND, x -> x.joint(0, 100, 0));
        add("joint(0, 0, 100)", BEYOND, x -> x.joint(0, 0, 100));
        add("jointIs(9, 0)", BEYOND, x -> x.jointIs(9, 0));
        add("jointIs(0, 7)", BEYOND, x -> x.jointIs(0, 7));
        add("way(6, 3, 1, 1)", BEYOND, x -> x.way(6, 3, 1, 1));
        add("way to no JOINT", BEYOND, x -> x.way(0, 9, 1, 1));
        add("way to JOINT 99", BEYOND, x -> x.way(0, 99, 1, 1));
        add("way from no JOINT", BEYOND, x -> x.way(0, 903, 1, 1));
        add("way(0, -97, 1, 1)", BEYOND, x -> x.way(0, -97, 1, 1));
        add("way(0, 3, 0, 1)", BEYOND, x -> x.way(0, 3, 0, 1));
        add("way(0, 3, 21, 1)", BEYOND, x -> x.way(0, 3, 21, 1));
        add("way(0, 3, 1, 0)", BEYOND, x -> x.way(0, 3, 1, 0));
        add("way(0, 3, 1, 100)", BEYOND, x -> x.way(0, 3, 1, 100));
        add("way from a SPRING", KIND, x -> x.way(0, 508, 1, 1));
        add("way from a SEA", KIND, x -> x.way(0, 808, 1, 1));
        add("way to a HOLE", KIND, x -> x.way(0, 201, 1, 1));
        add("way to itself, a HOLE", KIND, x -> x.way(0, 0, 1, 1));
        add("way to itself, a ROOM", STATE, x -> x.way(0, 303, 1, 1));
        add("way up", STATE, x -> x.way(0, 403, 1, 1));
        add("way: BEYOND ahead of KIND: kind", BEYOND, x -> x.way(6, 508, 1, 1));
        add("way: BEYOND ahead of KIND: JOINT", BEYOND, x -> x.way(0, 509, 1, 1));
        add("way: BEYOND ahead of KIND: LONG", BEYOND, x -> x.way(0, 508, 21, 1));
        add("way: BEYOND ahead of KIND: N", BEYOND, x -> x.way(0, 100, 1, 0));
        add("way: BEYOND ahead of STATE", BEYOND, x -> x.way(0, 403, 0, 1));
        add("way: KIND ahead of STATE: from a SPRING up", KIND, x -> x.way(0, 503, 1, 1));
        add("way: KIND ahead of STATE: up to a HOLE", KIND, x -> x.way(0, 100, 1, 1));
        add("as(10, 0)", BEYOND, x -> x.as(10, 0));
        add("as(0, 6)", BEYOND, x -> x.as(0, 6));
        add("as(0, 1), a WAY is no OPEN", KIND, x -> x.as(0, 1));
        add("as(8, 3), an OPEN is no OVERFLOW", KIND, x -> x.as(8, 3));
        add("as(3, 2), an OVERFLOW is no SIEVE", KIND, x -> x.as(3, 2));
        add("as(7, 4), a BLIND one is no POOL", KIND, x -> x.as(7, 4));
        add("as: BEYOND ahead of KIND", BEYOND, x -> x.as(10, 5));
        add("wayIs(10, 0)", BEYOND, x -> x.wayIs(10, 0));
        add("wayIs(0, 7)", BEYOND, x -> x.wayIs(0, 7));
        add("hangs(9, true)", BEYOND, x -> x.hangs(9, true));
        add("quick(9, 0)", BEYOND, x -> x.quick(9, 0));
        add("quick(0, 9)", BEYOND, x -> x.quick(0, 9));
        add("quick(9, 9), to itself", BEYOND, x -> x.quick(9, 9));
        add("quick(5, 0), up", NONE, x -> x.quick(5, 0));
        add("quick(0, 8), not joined", NONE, x -> x.quick(0, 8));
    }

    private void waterAndColours() {
        for (int c : NOT_COLOURS) {
            add("fade(" + c + ", 1)", BEYOND, x -> x.fade(c, 1));
            add("put(0, " + c + ", 1)", BEYOND, x -> x.put(0, c, 1));
            add("pours(0, " + c + ", 0, 0, 1)", BEYOND, x -> x.pours(0, c, 0, 0, 1));
            add("grains(0, " + c + ")", BEYOND, x -> x.grains(0, c));
            add("stuff(" + c + ", 0)", BEYOND, x -> x.stuff(c, 0));
            add("out(5, " + c + ", 1)", BEYOND, x -> x.out(5, c, 1));
        }
        for (int j : new int[] {-1, 9, MIN, MAX}) {
            add("put(" + j + ", 0, 1)", BEYOND, x -> x.put(j, 0, 1));
            add("pours(" + j + ", 0, 0, 0, 1)", BEYOND, x -> x.pours(j, 0, 0, 0, 1));
            add("grains(" + j + ", 0)", BEYOND, x -> x.grains(j, 0));
            add("out(" + j + ", 0, 1)", BEYOND, x -> x.out(j, 0, 1));
            add("spill(" + j + ", 1, 5, 1)", BEYOND, x -> x.spill(j, 1, 5, 1));
            add("spill(0, 1, " + j + ", 1)", BEYOND, x -> x.spill(0, 1, j, 1));
            add("first(" + j + ", 1, 5)", BEYOND, x -> x.first(j, 1, 5));
            add("first(0, 1, " + j + ")", BEYOND, x -> x.first(0, 1, j));
        }
        for (int g : new int[] {0, -1, 10000, MIN, MAX}) {
            add("put(0, 0, " + g + ")", BEYOND, x -> x.put(0, 0, g));
            add("spill(0, " + g + ", 5, 1)", BEYOND, x -> x.spill(0, g, 5, 1));
            add("first(0, " + g + ", 5)", BEYOND, x -> x.first(0, g, 5));
        }
        for (int v : new int[] {-1, 100, MIN, MAX}) {
            add("fade(1, " + v + ")", BEYOND, x -> x.fade(1, v));
        }
        for (int n : new int[] {0, -1, 61, MIN, MAX}) {
            add("hours(" + n + ")", BEYOND, x -> x.hours(n));
            add("spill(0, 1, 5, " + n + ")", BEYOND, x -> x.spill(0, 1, 5, n));
        }
        for (int ago : new int[] {0, -1, 25, MIN, MAX}) {
            add("out(5, 0, " + ago + ")", BEYOND, x -> x.out(5, 0, ago));
        }
        for (int p : new int[] {-1, 5, MIN, MAX}) {
            add("putIs(" + p + ", 0)", BEYOND, x -> x.putIs(p, 0));
        }
        for (int what : new int[] {-1, 4, MIN, MAX}) {
            add("putIs(0, " + what + ")", BEYOND, x -> x.putIs(0, what));
        }
        for (int what : new int[] {-1, 7, MIN, MAX}) {
            add("stuff(0, " + what + ")", BEYOND, x -> x.stuff(0, what));
        }
        for (int j : new int[] {3, 5, 8}) {
            add("put(" + j + ", 0, 1), no HOLE", KIND, x -> x.put(j, 0, 1));
            add("pours(" + j + ", 0, 0, 0, 1), no HOLE", KIND, x -> x.pours(j, 0, 0, 0, 1));
            add("spill(" + j + ", 1, 5, 1), no HOLE", KIND, x -> x.spill(j, 1, 5, 1));
            add("first(" + j + ", 1, 5), no HOLE", KIND, x -> x.first(j, 1, 5));
        }
        for (int j : new int[] {0, 3}) {
            add("out(" + j + ", 0, 1), no SPRING or SEA", KIND, x -> x.out(j, 0, 1));
            add("spill(0, 1, " + j + ", 1), no SPRING or SEA", KIND, x -> x.spill(0, 1, j, 1));
            add("first(0, 1, " + j + "), no SPRING or SEA", KIND, x -> x.first(0, 1, j));
        }
        add("put: BEYOND ahead of KIND: COLOUR", BEYOND, x -> x.put(3, 4, 1));
        add("put: BEYOND ahead of KIND: GRAINS", BEYOND, x -> x.put(3, 0, 0));
        add("out: BEYOND ahead of KIND: COLOUR", BEYOND, x -> x.out(0, 4, 1));
        add("out: BEYOND ahead of KIND: ago", BEYOND, x -> x.out(0, 0, 25));
        add("spill: BEYOND ahead of KIND: n", BEYOND, x -> x.spill(3, 1, 5, 61));
        add("spill: BEYOND ahead of KIND: GRAINS", BEYOND, x -> x.spill(0, 0, 3, 1));
        add("spill: BEYOND ahead of KIND: JOINT", BEYOND, x -> x.spill(3, 1, 9, 1));
        add("first: BEYOND ahead of KIND: GRAINS", BEYOND, x -> x.first(3, 10000, 5));
        add("first: BEYOND ahead of KIND: JOINT", BEYOND, x -> x.first(3, 1, 9));
        add("first: none come", NONE, x -> x.first(0, 1, 8));
        pours();
    }

    private void pours() {
        for (int s : new int[] {-1, 4, MIN, MAX}) {
            add("pours(0, 0, " + s + ", 0, 1)", BEYOND, x -> x.pours(0, 0, s, 0, 1));
        }
        for (int n : new int[] {-1, 10, MIN, MAX}) {
            add("pours(0, 0, 0, 0, " + n + ")", BEYOND, x -> x.pours(0, 0, 0, 0, n));
        }
        for (int i : new int[] {-1, 5, MIN, MAX}) {
            add("pours(0, 0, 0, " + i + ", 1), no such number", BEYOND, x -> x.pours(0, 0, 0, i, 1));
        }
        add("pours: the SHEET is missing", NONE, x -> x.pours(0, 0, 3, 0, 1));
        add("pours: the SHEET is missing, none asked for", NONE, x -> x.pours(0, 0, 3, 0, 0));
        add("pours: BEYOND ahead of KIND: COLOUR", BEYOND, x -> x.pours(3, 4, 0, 0, 1));
        add("pours: BEYOND ahead of KIND: SHEET", BEYOND, x -> x.pours(3, 0, 4, 0, 1));
        add("pours: BEYOND ahead of KIND: n", BEYOND, x -> x.pours(3, 0, 0, 0, 10));
        add("pours: BEYOND ahead of NONE", BEYOND, x -> x.pours(0, 0, 3, 0, 10));
        add("pours: KIND ahead of NONE", KIND, x -> x.pours(3, 0, 3, 0, 1));
        add("pours: KIND ahead of BEYOND of a number", KIND, x -> x.pours(3, 0, 0, 5, 1));
        add("pours: NONE ahead of BEYOND of a number", NONE, x -> x.pours(0, 0, 3, -1, 1));
    }

    private void texts() {
        for (int n : new int[] {0, -1, 9, MIN, MAX}) {
            add("feed(49, " + n + ")", BEYOND, x -> x.feed(49, n));
        }
        for (int use : new int[] {-1, 2, MIN, MAX}) {
            add("text(" + use + "), THE TAPE stays", BEYOND, x -> x.text(use));
        }
        for (int j : new int[] {-1, 9, MIN, MAX}) {
            add("rain(" + j + ")", BEYOND, x -> x.rain(j));
            add("seen(" + j + ", 0, 0)", BEYOND, x -> x.seen(j, 0, 0));
        }
        for (int j : new int[] {3, 5, 8}) {
            add("rain(" + j + "), no HOLE", KIND, x -> x.rain(j));
        }
        for (int j : new int[] {0, 3, 8}) {
            add("seen(" + j + ", 0, 0), no SPRING", KIND, x -> x.seen(j, 0, 0));
        }
        for (int c : NOT_COLOURS) {
            add("seen(5, " + c + ", 0)", BEYOND, x -> x.seen(5, c, 0));
        }
        for (int sort : new int[] {-1, 2, MIN, MAX}) {
            add("seen(5, 0, " + sort + ")", BEYOND, x -> x.seen(5, 0, sort));
        }
        add("seen: BEYOND ahead of KIND: COLOUR", BEYOND, x -> x.seen(0, 4, 0));
        add("seen: BEYOND ahead of KIND: sort", BEYOND, x -> x.seen(0, 0, 2));
    }

    private void looks() {
        for (int j : new int[] {-1, 9, MIN, MAX}) {
            add("bottle(" + j + ", 0)", BEYOND, x -> x.bottle(j, 0));
            add("bag(" + j + ", 0, 1)", BEYOND, x -> x.bag(j, 0, 1));
            add("town(" + j + ", true)", BEYOND, x -> x.town(j, true));
            add("town(" + j + ", false)", BEYOND, x -> x.town(j, false));
        }
        for (int j : new int[] {0, 3, 8}) {
            add("bottle(" + j + ", 0), no SPRING", KIND, x -> x.bottle(j, 0));
            add("bag(" + j + ", 0, 1), no SPRING", KIND, x -> x.bag(j, 0, 1));
            add("town(" + j + ", true), no SPRING", KIND, x -> x.town(j, true));
        }
        for (int c : NOT_COLOURS) {
            add("bottle(5, " + c + ")", BEYOND, x -> x.bottle(5, c));
            add("bag(5, " + c + ", 1)", BEYOND, x -> x.bag(5, c, 1));
            add("share(" + c + ")", BEYOND, x -> x.share(c));
        }
        for (int n : new int[] {0, -1, 25, MIN, MAX}) {
            add("bag(5, 0, " + n + ")", BEYOND, x -> x.bag(5, 0, n));
        }
        for (int l : new int[] {-1, 5, MIN, MAX}) {
            add("lookIs(" + l + ", 0)", BEYOND, x -> x.lookIs(l, 0));
        }
        for (int what : new int[] {-1, 6, 7, MIN, MAX}) {
            add("lookIs(0, " + what + ")", BEYOND, x -> x.lookIs(0, what));
        }
        add("bottle: BEYOND ahead of KIND", BEYOND, x -> x.bottle(0, 4));
        add("bag: BEYOND ahead of KIND: COLOUR", BEYOND, x -> x.bag(0, 4, 1));
        add("bag: BEYOND ahead of KIND: n", BEYOND, x -> x.bag(0, 0, 25));
        for (int v : new int[] {0, -1, 5, MIN, MAX}) {
            add("night(" + v + ", 1, 0)", BEYOND, x -> x.night(v, 1, 0));
        }
        for (int v : new int[] {0, -1, 7, MIN, MAX}) {
            add("night(1, " + v + ", 0)", BEYOND, x -> x.night(1, v, 0));
        }
        for (int what : new int[] {-1, 3, MIN, MAX}) {
            add("night(1, 1, " + what + ")", BEYOND, x -> x.night(1, 1, what));
            add("musts(0, " + what + ")", BEYOND, x -> x.musts(0, what));
        }
        add("night(4, 1, 0), 3 HOLES", NONE, x -> x.night(4, 1, 0));
        add("night(1, 4, 0), 3 SPRINGS", NONE, x -> x.night(1, 4, 0));
        add("night: BEYOND ahead of NONE", BEYOND, x -> x.night(4, 7, 0));
        add("musts(-1, 0)", BEYOND, x -> x.musts(-1, 0));
        add("musts(MIN, 0)", BEYOND, x -> x.musts(MIN, 0));
        add("musts(0, 0)", NONE, x -> x.musts(0, 0));
        add("musts(MAX, 2)", NONE, x -> x.musts(MAX, 2));
        add("musts: BEYOND ahead of NONE", BEYOND, x -> x.musts(MAX, 3));
    }

    private void pairs() {
        for (int j : new int[] {-1, 9, MIN, MAX}) {
            add("joined(" + j + ", 5, 0)", BEYOND, x -> x.joined(j, 5, 0));
            add("joined(0, " + j + ", 0)", BEYOND, x -> x.joined(0, j, 0));
            add("never(" + j + ", 5)", BEYOND, x -> x.never(j, 5));
            add("never(0, " + j + ")", BEYOND, x -> x.never(0, j));
            add("span(" + j + ", 6, 0, 1)", BEYOND, x -> x.span(j, 6, 0, 1));
            add("span(0, " + j + ", 0, 1)", BEYOND, x -> x.span(0, j, 0, 1));
            add("crosses(" + j + ", 5, 1, 6)", BEYOND, x -> x.crosses(j, 5, 1, 6));
            add("crosses(0, " + j + ", 1, 6)", BEYOND, x -> x.crosses(0, j, 1, 6));
            add("crosses(0, 5, " + j + ", 6)", BEYOND, x -> x.crosses(0, 5, j, 6));
            add("crosses(0, 5, 1, " + j + ")", BEYOND, x -> x.crosses(0, 5, 1, j));
        }
        for (int j : new int[] {3, 5, 8}) {
            add("joined(" + j + ", 6, 0), no HOLE", KIND, x -> x.joined(j, 6, 0));
            add("never(" + j + ", 6), no HOLE", KIND, x -> x.never(j, 6));
            add("span(" + j + ", 6, 0, 1), no HOLE", KIND, x -> x.span(j, 6, 0, 1));
            add("crosses(" + j + ", 6, 1, 7), no HOLE", KIND, x -> x.crosses(j, 6, 1, 7));
            add("crosses(0, 6, " + j + ", 7), no HOLE", KIND, x -> x.crosses(0, 6, j, 7));
        }
        for (int j : new int[] {1, 3, 8}) {
            add("joined(0, " + j + ", 0), no SPRING", KIND, x -> x.joined(0, j, 0));
            add("never(0, " + j + "), no SPRING", KIND, x -> x.never(0, j));
            add("span(0, " + j + ", 0, 1), no SPRING", KIND, x -> x.span(0, j, 0, 1));
            add("crosses(0, " + j + ", 1, 7), no SPRING", KIND, x -> x.crosses(0, j, 1, 7));
            add("crosses(0, 6, 1, " + j + "), no SPRING", KIND, x -> x.crosses(0, 6, 1, j));
        }
        for (int water : new int[] {-1, 3, MIN, MAX}) {
            add("joined(0, 5, " + water + ")", BEYOND, x -> x.joined(0, 5, water));
        }
        for (int c : NOT_COLOURS) {
            add("span(0, 6, " + c + ", 1)", BEYOND, x -> x.span(0, 6, c, 1));
        }
        for (int end : new int[] {-1, 2, MIN, MAX}) {
            add("span(0, 6, 3, " + end + ")", BEYOND, x -> x.span(0, 6, 3, end));
        }
        add("joined: BEYOND ahead of KIND", BEYOND, x -> x.joined(3, 5, 3));
        add("never: BEYOND ahead of KIND", BEYOND, x -> x.never(3, 9));
        add("span: BEYOND ahead of KIND: COLOUR", BEYOND, x -> x.span(3, 6, 4, 1));
        add("span: BEYOND ahead of KIND: end", BEYOND, x -> x.span(3, 6, 0, 2));
        add("span: KIND ahead of STATE", KIND, x -> x.span(0, 3, 0, 1));
        add("span: put twice", STATE, x -> x.span(0, 6, 0, 1));
        add("span: put elsewhere", STATE, x -> x.span(0, 7, 2, 1));
        add("span: no LOOK SAW it", NONE, x -> x.span(0, 6, 3, 0));
        add("span: STATE ahead of NONE", STATE, x -> x.span(1, 6, 3, 0));
        add("crosses: a is b", BEYOND, x -> x.crosses(0, 5, 0, 6));
        add("crosses: x is y", BEYOND, x -> x.crosses(0, 5, 1, 5));
        add("crosses: BEYOND ahead of KIND: a is b, no HOLE", BEYOND, x -> x.crosses(3, 5, 3, 6));
        add("crosses: BEYOND ahead of KIND: x is y, no SPRING", BEYOND, x -> x.crosses(0, 8, 1, 8));
        add("crosses: BEYOND ahead of KIND: no JOINT y", BEYOND, x -> x.crosses(3, 5, 1, 9));
        for (int bits : new int[] {1 << 9, -1, MIN, MAX, 1 << 16}) {
            add("rooms(" + bits + ", 0)", BEYOND, x -> x.rooms(bits, 0));
            add("rooms(0, " + bits + ")", BEYOND, x -> x.rooms(0, bits));
        }
        for (int j : new int[] {3, 5, 8}) {
            add("rooms: JOINT " + j + " is no HOLE", KIND, x -> x.rooms(1 | 1 << j, 32));
        }
        for (int j : new int[] {0, 3, 8}) {
            add("rooms: JOINT " + j + " is no SPRING", KIND, x -> x.rooms(1, 32 | 1 << j));
        }
        add("rooms: BEYOND ahead of KIND", BEYOND, x -> x.rooms(8, 1 << 9));
    }

    private void voicesAndSheets() {
        for (int v : new int[] {-1, 10, MIN, MAX}) {
            add("voice(" + v + ", 0, 1)", BEYOND, x -> x.voice(v, 0, 1));
        }
        for (int v : new int[] {-1, 4, MIN, MAX}) {
            add("voice(0, " + v + ", 1)", BEYOND, x -> x.voice(0, v, 1));
            add("sheet(" + v + ", 8, 1)", BEYOND, x -> x.sheet(v, 8, 1));
            add("sheet(" + v + ", 0, 1)", BEYOND, x -> x.sheet(v, 0, 1));
            add("place(" + v + ", 0, 1)", BEYOND, x -> x.place(v, 0, 1));
            add("move(" + v + ", 0, 0, 0, 1)", BEYOND, x -> x.move(v, 0, 0, 0, 1));
            add("move(0, 0, " + v + ", 0, 1)", BEYOND, x -> x.move(0, 0, v, 0, 1));
        }
        for (int i : new int[] {-1, 6, 30, MIN, MAX}) {
            add("trace(" + i + ")", NONE, x -> x.trace(i));
        }
        for (int bits : new int[] {-1, 1, 7, 9, 15, 17, 31, 33, 64, -8, MIN, MAX}) {
            add("sheet(0, " + bits + ", 1)", BEYOND, x -> x.sheet(0, bits, 1));
        }
        for (int n : new int[] {-1, MIN}) {
            add("sheet(0, 8, " + n + ")", STATE, x -> x.sheet(0, 8, n));
        }
        for (int n : new int[] {25, MAX}) {
            add("sheet(0, 16, " + n + ")", BEYOND, x -> x.sheet(0, 16, n));
        }
        add("sheet: BEYOND of a SHEET ahead of STATE", BEYOND, x -> x.sheet(4, 8, -1));
        add("sheet: BEYOND of bits ahead of STATE", BEYOND, x -> x.sheet(0, 7, -1));
        for (int i : new int[] {-1, 5, MIN, MAX}) {
            add("place(0, " + i + ", 1)", BEYOND, x -> x.place(0, i, 1));
        }
        add("place: it is missing", NONE, x -> x.place(3, 0, 1));
        add("place: NONE ahead of BEYOND of a number", NONE, x -> x.place(3, -1, 1));
        add("move from a missing one", NONE, x -> x.move(3, 0, 0, 0, 1));
        add("move to a missing one", NONE, x -> x.move(0, 0, 3, 0, 1));
        add("move of a missing one to itself", NONE, x -> x.move(3, 0, 3, 0, 0));
        add("move of unlike bits", KIND, x -> x.move(0, 0, 2, 0, 1));
        add("move: BEYOND of a SHEET ahead of NONE", BEYOND, x -> x.move(3, 0, 4, 0, 1));
        add("move: NONE ahead of KIND and BEYOND", NONE, x -> x.move(2, 0, 3, 0, -1));
        add("move: KIND ahead of BEYOND", KIND, x -> x.move(0, 0, 2, 0, -1));
        for (int v : new int[] {-1, MIN}) {
            add("move(0, 0, 1, 0, " + v + ")", BEYOND, x -> x.move(0, 0, 1, 0, v));
            add("move(0, " + v + ", 1, 0, 1)", BEYOND, x -> x.move(0, v, 1, 0, 1));
            add("move(0, 0, 1, " + v + ", 1)", BEYOND, x -> x.move(0, 0, 1, v, 1));
        }
        add("move 4 to 3 numbers", BEYOND, x -> x.move(0, 0, 1, 0, 4));
        add("move 4 of 3 numbers", BEYOND, x -> x.move(1, 0, 0, 0, 4));
        add("move, the last to one beyond", BEYOND, x -> x.move(0, 0, 1, 2, 2));
        add("move, the last from one beyond", BEYOND, x -> x.move(0, 4, 1, 0, 2));
        add("move MAX", BEYOND, x -> x.move(0, 1, 1, 1, MAX));
        add("move from MAX on", BEYOND, x -> x.move(0, MAX, 1, 0, 1));
        add("move to MAX on", BEYOND, x -> x.move(0, 0, 1, MAX, 1));
        for (int what : new int[] {-1, 12, MIN, MAX}) {
            add("count(" + what + ")", BEYOND, x -> x.count(what));
        }
        for (int k : new int[] {0, -1, 7, MIN, MAX}) {
            add("told(" + k + ")", BEYOND, x -> x.told(k));
        }
    }

    private void noRoom() {
        add("joint, the 17th", FULL, x -> x.joint(0, 0, 0));
        add("way, the 25th", FULL, x -> x.way(0, 6, 1, 1));
        add("hours(1) at 999", STATE, x -> x.hours(1));
        add("hours(60) at 999", STATE, x -> x.hours(60));
        add("put, the 41st", FULL, x -> x.put(0, 0, 1));
        add("pours, the 41st", FULL, x -> x.pours(0, 0, 0, 0, 1));
        add("pours, the 41st, behind some that are left out", FULL, x -> x.pours(0, 0, 1, 0, 2));
        add("feed, the 61st", FULL, x -> x.feed(49, 1));
        add("feed(.., 8)", FULL, x -> x.feed(49, 8));
        add("bottle, the 61st", FULL, x -> x.bottle(8, 0));
        add("bag, the 61st", FULL, x -> x.bag(8, 0, 1));
        add("rooms of 6 HOLES", FULL, x -> x.rooms(63, 1 << 8));
        add("rooms of 6 SPRINGS", FULL, x -> x.rooms(1, 63 << 8));
        add("rooms of 6 HOLES and no SPRINGS", FULL, x -> x.rooms(63, 0));
        add("tell, the 25th", FULL, x -> x.tell(0));
        add("jointIs(16, 0)", BEYOND, x -> x.jointIs(16, 0));
        add("wayIs(24, 0)", BEYOND, x -> x.wayIs(24, 0));
        add("as(24, 0)", BEYOND, x -> x.as(24, 0));
        add("voice(24, 0, 0)", BEYOND, x -> x.voice(24, 0, 0));
        add("putIs(40, 0)", BEYOND, x -> x.putIs(40, 0));
        add("lookIs(60, 0)", BEYOND, x -> x.lookIs(60, 0));
        add("grains(16, 0)", BEYOND, x -> x.grains(16, 0));
        add("out(16, 0, 1)", BEYOND, x -> x.out(16, 0, 1));
        add("rain(16)", BEYOND, x -> x.rain(16));
        add("rooms(1 << 16, 0)", BEYOND, x -> x.rooms(1 << 16, 0));
        add("rooms(0, 1 << 16)", BEYOND, x -> x.rooms(0, 1 << 16));
    }

    private void aheadOfNoRoom() {
        add("joint: BEYOND ahead of FULL: sort", BEYOND, x -> x.joint(4, 0, 0));
        add("joint: BEYOND ahead of FULL: EAST", BEYOND, x -> x.joint(0, 100, 0));
        add("joint: BEYOND ahead of FULL: HEIGHT", BEYOND, x -> x.joint(0, 0, -1));
        add("way: BEYOND ahead of FULL", BEYOND, x -> x.way(0, 6, 0, 1));
        add("way: KIND ahead of FULL", KIND, x -> x.way(0, 814, 1, 1));
        add("way: STATE ahead of FULL", STATE, x -> x.way(0, 706, 1, 1));
        add("hours: BEYOND ahead of STATE: 0", BEYOND, x -> x.hours(0));
        add("hours: BEYOND ahead of STATE: 61", BEYOND, x -> x.hours(61));
        add("put: BEYOND ahead of FULL", BEYOND, x -> x.put(0, 0, 10000));
        add("put: KIND ahead of FULL", KIND, x -> x.put(6, 0, 1));
        add("pours: BEYOND of n ahead of FULL", BEYOND, x -> x.pours(0, 0, 0, 0, 10));
        add("pours: KIND ahead of FULL", KIND, x -> x.pours(6, 0, 0, 0, 1));
        add("pours: NONE ahead of FULL", NONE, x -> x.pours(0, 0, 2, 0, 1));
        add("pours: BEYOND of a number ahead of FULL", BEYOND, x -> x.pours(0, 0, 1, 2, 1));
        add("feed: BEYOND ahead of FULL: 0", BEYOND, x -> x.feed(49, 0));
        add("feed: BEYOND ahead of FULL: 9", BEYOND, x -> x.feed(49, 9));
        add("bottle: BEYOND ahead of FULL", BEYOND, x -> x.bottle(8, 4));
        add("bottle: KIND ahead of FULL", KIND, x -> x.bottle(14, 0));
        add("bag: BEYOND of n ahead of FULL", BEYOND, x -> x.bag(8, 0, 25));
        add("bag: KIND ahead of FULL", KIND, x -> x.bag(0, 0, 1));
        add("rooms: BEYOND ahead of FULL", BEYOND, x -> x.rooms(63, 1 << 16));
        add("rooms: KIND ahead of FULL: HOLES", KIND, x -> x.rooms(127, 0));
        add("rooms: KIND ahead of FULL: SPRINGS", KIND, x -> x.rooms(63, 1));
    }

    private void nothingThere() {
        add("jointIs(0, 0)", BEYOND, x -> x.jointIs(0, 0));
        add("way(0, 0, 1, 1)", BEYOND, x -> x.way(0, 0, 1, 1));
        add("as(0, 0)", BEYOND, x -> x.as(0, 0));
        add("wayIs(0, 0)", BEYOND, x -> x.wayIs(0, 0));
        add("hangs(0, true)", BEYOND, x -> x.hangs(0, true));
        add("quick(0, 0)", BEYOND, x -> x.quick(0, 0));
        add("put(0, 0, 1)", BEYOND, x -> x.put(0, 0, 1));
        add("putIs(0, 0)", BEYOND, x -> x.putIs(0, 0));
        add("pours(0, 0, 0, 0, 0)", BEYOND, x -> x.pours(0, 0, 0, 0, 0));
        add("grains(0, 0)", BEYOND, x -> x.grains(0, 0));
        add("out(0, 0, 1)", BEYOND, x -> x.out(0, 0, 1));
        add("spill(0, 1, 0, 1)", BEYOND, x -> x.spill(0, 1, 0, 1));
        add("first(0, 1, 0)", BEYOND, x -> x.first(0, 1, 0));
        add("rain(0)", BEYOND, x -> x.rain(0));
        add("seen(0, 0, 0)", BEYOND, x -> x.seen(0, 0, 0));
        add("bottle(0, 0)", BEYOND, x -> x.bottle(0, 0));
        add("bag(0, 0, 1)", BEYOND, x -> x.bag(0, 0, 1));
        add("lookIs(0, 0)", BEYOND, x -> x.lookIs(0, 0));
        add("joined(0, 0, 0)", BEYOND, x -> x.joined(0, 0, 0));
        add("never(0, 0)", BEYOND, x -> x.never(0, 0));
        add("span(0, 0, 0, 0)", BEYOND, x -> x.span(0, 0, 0, 0));
        add("musts(0, 0)", NONE, x -> x.musts(0, 0));
        add("crosses(0, 1, 2, 3)", BEYOND, x -> x.crosses(0, 1, 2, 3));
        add("rooms(1, 0)", BEYOND, x -> x.rooms(1, 0));
        add("rooms(0, 1)", BEYOND, x -> x.rooms(0, 1));
        add("town(0, true)", BEYOND, x -> x.town(0, true));
        add("night(1, 1, 0)", NONE, x -> x.night(1, 1, 0));
        add("voice(0, 0, 0)", BEYOND, x -> x.voice(0, 0, 0));
        add("trace(0)", NONE, x -> x.trace(0));
        add("place(0, 0, 0)", NONE, x -> x.place(0, 0, 0));
        add("move(0, 0, 0, 0, 0)", NONE, x -> x.move(0, 0, 0, 0, 0));
        add("restore()", NONE, x -> x.restore());
        add("check(0)", BEYOND, x -> x.check(0));
    }
}
