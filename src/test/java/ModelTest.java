import java.lang.reflect.InvocationTargetException;
import java.lang.reflect.Method;
import java.util.ArrayList;
import java.util.Arrays;
import java.util.Comparator;
import java.util.List;
import java.util.Random;

/**
 * Runs of 512 calls on a HoleWater and on the plain model, side by side: all answers must be alike, and no call may throw.
 * The runs come from fixed seeds. With an argument n: n runs.
 */
public final class ModelTest {
    private static final int CALLS = 512;
    private static final int[] WILD = {Integer.MIN_VALUE, Integer.MAX_VALUE, -1, 0, 1, 15, 16, 23, 24, 60, 61, 99, 100, 999, 1000,
        9999, 10000, 65535, 65536, -65536, -1000001};
    private static final String[] DOING = {"hours", "put", "bottle", "bag", "way", "pours", "text", "hours", "bottle", "bag"};
    private static final String[] LOOKING = {"hours", "bottle", "bag", "bottle", "flood"};
    private static final String[] POURING = {"place", "place", "move", "pours", "pours", "put", "putIs", "hours"};
    private static final String[] ASKING = {"joined", "musts", "crosses", "rooms", "night", "span", "never", "share"};
    private static final List<String> UNSETTLING = List.of("put", "pours", "way", "joint", "text", "feed", "restore");
    private static final List<Method> CALLED = new ArrayList<>();

    private final Random random;
    private final HoleWater program = new HoleWater();
    private final PlainModel model = new PlainModel();
    private final List<String> story = new ArrayList<>();
    /** How many calls were made: what later ones than the 512th answer is free, so none are made. */
    private int calls = 0;
    /**
     * 0 many HOLES and SPRINGS, 1 many ROOMS, 2 long WAYS, 3 a late start, 4 one COLOUR a HOLE and many LOOKS,
     * 5 SHEETS and PUTS.
     */
    private final int style;

    private ModelTest(long seed) {
        random = new Random(seed);
        style = random.nextInt(6);
    }

    public static void main(String[] args) throws ReflectiveOperationException {
        for (Method method : HoleWater.class.getDeclaredMethods()) {
            if (java.lang.reflect.Modifier.isPublic(method.getModifiers())) {
                CALLED.add(method);
            }
        }
        CALLED.sort(Comparator.comparing(Method::getName));
        int runs = args.length > 0 ? Integer.parseInt(args[0]) : 600;
        int wrong = 0;
        for (int seed = 1; seed <= runs && wrong < 3; seed++) {
            wrong += new ModelTest(seed).run(seed) ? 0 : 1;
        }
        System.out.println(runs + " runs of " + CALLS + " calls, " + wrong + " not as the model");
        if (wrong > 0 || CALLED.size() != 45) {
            System.exit(1);
        }
    }

    private boolean run(int seed) throws ReflectiveOperationException {
        for (Object[] call : opening()) {
            if (!alike(seed, (String) call[0], Arrays.copyOfRange(call, 1, call.length))) {
                return false;
            }
        }
        while (calls < CALLS) {
            Method method = CALLED.get(random.nextInt(CALLED.size()));
            String name = method.getName();
            // a run that only asks soon has nothing left to ask: the calls that make things happen come more often
            if (random.nextInt(3) == 0) {
                String[] busy = style == 4 ? LOOKING : style == 5 ? POURING : DOING;
                name = busy[random.nextInt(busy.length)];
            }
            if (style == 4 && UNSETTLING.contains(name) && random.nextInt(20) > 0) {
                name = ASKING[random.nextInt(ASKING.length)];
            }
            if ((name.equals("restore") || name.equals("sheet") && style == 5) && random.nextInt(4) > 0) {
                name = "stuff";
            }
            if (name.equals("text") && !feedText(seed) || name.equals("check") && !tellTrue(seed)) {
                return false;
            }
            if (!alike(seed, name, arguments(name))) {
                return false;
            }
        }
        return true;
    }

    private boolean alike(int seed, String name, Object... arguments) throws ReflectiveOperationException {
        if (calls >= CALLS) {
            return true;
        }
        calls++;
        Method method = CALLED.stream().filter(m -> m.getName().equals(name)).findFirst().orElseThrow();
        Method same = PlainModel.class.getMethod(name, method.getParameterTypes());
        String call = name + Arrays.toString(arguments);
        Object want = same.invoke(model, arguments);
        Object got;
        try {
            got = method.invoke(program, arguments);
        } catch (InvocationTargetException thrown) {
            got = thrown.getCause();
        }
        story.add(call + " -> " + got);
        if (!want.equals(got)) {
            System.out.println("seed " + seed + ": " + call + " answered " + got + ", the model " + want);
            story.subList(Math.max(0, story.size() - 30), story.size()).forEach(line -> System.out.println("    " + line));
            return false;
        }
        return true;
    }

    /** Most numbers that are told at random are wrong; some are to be right, most of them for the SPRING that is asked for. */
    private boolean tellTrue(int seed) throws ReflectiveOperationException {
        int joint = outlet();
        if (random.nextInt(3) == 0 || model.jointIs(Math.floorMod(joint, Math.max(1, model.count(1))), 0) < 2
                || joint < 0 || joint >= model.count(1)) {
            return true;
        }
        if (!alike(seed, "check", joint)) {
            return false;
        }
        int[] water = model.waterToCome(joint, random.nextInt(26));
        if (water.length > 0 && random.nextInt(3) == 0) {
            water[random.nextInt(water.length)]++;
        }
        for (int v : water) {
            if (!alike(seed, "tell", v)) {
                return false;
            }
        }
        return alike(seed, "check", joint);
    }

    /** Each COLOUR in a HOLE of its own, SPRINGS nearby, RAIN that comes in FLOOD alone for some. */
    private List<Object[]> lookers() {
        List<Object[]> calls = new ArrayList<>();
        int holes = 2 + random.nextInt(4);
        int springs = 2 + random.nextInt(4);
        for (int i = 0; i < holes; i++) {
            calls.add(new Object[] {"joint", 0, random.nextInt(100), 40 + random.nextInt(60)});
        }
        for (int i = 0; i < springs; i++) {
            calls.add(new Object[] {"joint", 2, random.nextInt(100), random.nextInt(40)});
        }
        int chance = 2 + random.nextInt(3);
        for (int h = 0; h < holes; h++) {
            for (int p = 0; p < springs; p++) {
                if (random.nextInt(chance) == 0) {
                    int kind = random.nextInt(3) == 0 ? 3 : random.nextInt(3) == 0 ? 4 : 0;
                    calls.add(new Object[] {"way", kind, h * 100 + holes + p, 1 + random.nextInt(3), 15 + random.nextInt(9)});
                }
            }
        }
        String rain = "20+h?f=1;5";
        calls.add(new Object[] {"feed", word(rain.substring(0, 8)), 8});
        calls.add(new Object[] {"feed", word(rain.substring(8)), rain.length() - 8});
        calls.add(new Object[] {"text", random.nextInt(5) == 0 ? 1 : 0});
        for (int h = 0; h < holes && h < 4; h++) {
            calls.add(new Object[] {"put", h, h, 100 + random.nextInt(9899)});
        }
        for (int turn = 0; turn < 2; turn++) {
            calls.add(new Object[] {"hours", 1 + random.nextInt(3) + 2 * turn});
            for (int i = 0; i < 24; i++) {
                int spring = holes + random.nextInt(springs);
                calls.add(turn == 0 ? new Object[] {"bottle", spring, random.nextInt(4)}
                    : new Object[] {"bag", spring, random.nextInt(4), 1 + random.nextInt(6)});
            }
            calls.add(new Object[] {"flood", random.nextInt(4) > 0});
        }
        return calls;
    }

    private static long word(String part) {
        long word = 0;
        for (int k = part.length() - 1; k >= 0; k--) {
            word = word << 8 | part.charAt(k);
        }
        return word;
    }

    private List<Object[]> opening() {
        if (style == 4) {
            return lookers();
        }
        List<Object[]> calls = new ArrayList<>();
        int holes = 1 + random.nextInt(style == 0 ? 6 : 3);
        int rooms = random.nextInt(style == 1 ? 6 : 3);
        int springs = 1 + random.nextInt(style == 0 ? 6 : 3);
        for (int i = 0; i < holes; i++) {
            calls.add(new Object[] {"joint", 0, random.nextInt(100), 70 + random.nextInt(30)});
        }
        for (int i = 0; i < rooms; i++) {
            calls.add(new Object[] {"joint", 1, random.nextInt(100), 30 + random.nextInt(40)});
        }
        for (int i = 0; i < springs; i++) {
            calls.add(new Object[] {"joint", 2, random.nextInt(100), random.nextInt(30)});
        }
        calls.add(new Object[] {"joint", 3, random.nextInt(100), 0});
        int all = holes + rooms + springs + 1;
        int ways = 3 + random.nextInt(20);
        for (int i = 0; i < ways; i++) {
            int from = random.nextInt(holes + rooms);
            int to = holes + random.nextInt(all - holes);
            int length = 1 + random.nextInt(style == 2 ? 20 : 4);
            int n = 1 + random.nextInt(random.nextBoolean() ? 20 : 99);
            calls.add(new Object[] {"way", random.nextInt(random.nextInt(3) == 0 ? 6 : 5), from * 100 + to, length, n});
        }
        for (int i = 0; i < 4 && style == 5; i++) {
            calls.add(new Object[] {"sheet", i, new int[] {8, 16, 32}[random.nextInt(2)], random.nextInt(25)});
        }
        if (style == 3) {
            for (int i = 0; i < 16; i++) {
                calls.add(new Object[] {"hours", 60});
            }
        }
        return calls;
    }

    private int near(int most) {
        return random.nextInt(40) == 0 ? WILD[random.nextInt(WILD.length)] : random.nextInt(most);
    }

    private int ofSort(int sort) {
        if (random.nextInt(8) > 0) {
            for (int i = 0; i < 20; i++) {
                int j = random.nextInt(16);
                if (j < model.count(1) && model.jointIs(j, 0) == sort) {
                    return j;
                }
            }
        }
        return near(17);
    }

    private int outlet() {
        return ofSort(random.nextInt(4) == 0 ? 3 : 2);
    }

    private int grains() {
        return random.nextInt(10) == 0 ? near(11000) : 1 + random.nextInt(random.nextBoolean() ? 60 : 9999);
    }

    private int bits(int sort) {
        int bits = 0;
        for (int j = 0; j < model.count(1); j++) {
            bits |= model.jointIs(j, 0) == sort && random.nextInt(4) > 0 ? 1 << j : 0;
        }
        return random.nextInt(30) == 0 ? near(1 << 17) : bits;
    }

    private Object[] arguments(String name) {
        return switch (name) {
            case "joint" -> new Object[] {near(4), near(101), near(101)};
            case "jointIs" -> new Object[] {near(17), near(8)};
            case "way" -> new Object[] {near(6), random.nextInt(9) == 0 ? near(1700) : ofSort(random.nextInt(2)) * 100
                + ofSort(1 + random.nextInt(3)), 1 + near(6), 1 + near(40)};
            case "as" -> new Object[] {near(24), near(6)};
            case "wayIs" -> new Object[] {near(25), near(8)};
            case "hangs" -> new Object[] {near(17), random.nextBoolean()};
            case "quick" -> new Object[] {near(16), near(16)};
            case "flood" -> new Object[] {random.nextBoolean()};
            case "fade" -> new Object[] {near(5), near(random.nextInt(3) == 0 ? 101 : 6)};
            case "hours" -> new Object[] {random.nextInt(15) == 0 ? near(62) : 1 + random.nextInt(5)};
            case "put" -> new Object[] {ofSort(0), near(4), grains()};
            case "putIs" -> new Object[] {near(41), near(5)};
            case "pours" -> new Object[] {ofSort(0), near(4), near(4), near(10), near(random.nextInt(4) == 0 ? 11 : 4)};
            case "grains" -> new Object[] {near(17), near(5)};
            case "stuff" -> new Object[] {near(4), near(8)};
            case "out" -> new Object[] {outlet(), near(4), 1 + near(24)};
            case "spill" -> new Object[] {ofSort(0), grains(), outlet(), 1 + near(60)};
            case "first" -> new Object[] {ofSort(0), grains(), outlet()};
            case "feed" -> new Object[] {random.nextLong(), near(9)};
            case "text" -> new Object[] {near(2)};
            case "rain" -> new Object[] {ofSort(0)};
            case "seen" -> new Object[] {ofSort(2), near(4), near(2)};
            case "bottle" -> new Object[] {ofSort(2), near(4)};
            case "bag" -> new Object[] {ofSort(2), near(4), 1 + near(24)};
            case "lookIs" -> new Object[] {near(61), near(7)};
            case "joined" -> new Object[] {ofSort(0), ofSort(2), near(3)};
            case "never" -> new Object[] {ofSort(0), ofSort(2)};
            case "span" -> new Object[] {ofSort(0), ofSort(2), near(4), near(2)};
            case "musts" -> new Object[] {near(4), near(4)};
            case "crosses" -> new Object[] {ofSort(0), ofSort(2), ofSort(0), ofSort(2)};
            case "rooms" -> new Object[] {bits(0), bits(2)};
            case "town" -> new Object[] {ofSort(2), random.nextBoolean()};
            case "night" -> new Object[] {1 + near(4), 1 + near(random.nextInt(3) == 0 ? 6 : 3), near(3)};
            case "share" -> new Object[] {near(4)};
            case "voice" -> new Object[] {near(24), near(4), random.nextBoolean() ? random.nextInt() : near(100)};
            case "trace" -> new Object[] {near(8)};
            case "sheet" -> new Object[] {near(4), random.nextInt(20) == 0 ? near(64) : new int[] {8, 16, 16, 32, 32, 0}[random.nextInt(6)],
                random.nextInt(10) == 0 ? near(26) - 1 : 6 + random.nextInt(19)};
            case "place" -> new Object[] {near(4), near(random.nextInt(4) == 0 ? 25 : 10), random.nextBoolean() ? grains() : random.nextInt()};
            case "move" -> new Object[] {near(4), near(12), near(4), near(12), near(8)};
            case "tell" -> new Object[] {near(40)};
            case "check" -> new Object[] {outlet()};
            case "count" -> new Object[] {near(13)};
            case "told" -> new Object[] {near(8)};
            default -> new Object[0];
        };
    }

    /** A TEXT by the rules, now and then with a sign changed, dropped or put in. */
    private boolean feedText(int seed) throws ReflectiveOperationException {
        String names = random.nextInt(3) == 0 ? "hdkfwcs" : random.nextBoolean() ? "hdkf" : "wcs";
        StringBuilder text = new StringBuilder();
        int cases = 1 + random.nextInt(random.nextInt(4) == 0 ? 7 : 3);
        for (int i = 0; i < cases; i++) {
            text.append(i > 0 ? ";" : "").append(sum(names, 0));
            for (int t = random.nextInt(3); t > 0; t--) {
                text.append(text.indexOf("?", text.lastIndexOf(";") + 1) < 0 ? "?" : "&");
                text.append(sum(names, 0)).append("<=>".charAt(random.nextInt(3))).append(sum(names, 0));
            }
        }
        if (random.nextInt(3) == 0 && text.length() > 0) {
            int i = random.nextInt(text.length());
            String sign = String.valueOf("0123456789+-*/()?;&<=>hdkfwcs x".charAt(random.nextInt(31)));
            text.replace(i, i + random.nextInt(2), random.nextInt(3) == 0 ? "" : sign);
        }
        String tape = text.substring(0, Math.min(60, text.length()));
        if (random.nextInt(4) > 0) {
            // an empty TAPE first, so that what was left there doesn't spoil it
            if (!alike(seed, "text", random.nextInt(2))) {
                return false;
            }
        }
        for (int i = 0; i < tape.length(); i += 8) {
            int n = Math.min(8, tape.length() - i);
            if (!alike(seed, "feed", word(tape.substring(i, i + n)), n)) {
                return false;
            }
        }
        return true;
    }

    private String sum(String names, int depth) {
        StringBuilder sum = new StringBuilder(one(names, depth));
        for (int i = random.nextInt(3); i > 0; i--) {
            sum.append("++--*/".charAt(random.nextInt(6))).append(one(names, depth));
        }
        return sum.toString();
    }

    private String one(String names, int depth) {
        int which = random.nextInt(8);
        if (which == 0 && depth < 5) {
            return "(" + sum(names, depth + 1) + ")";
        }
        return which < 4 ? String.valueOf(names.charAt(random.nextInt(names.length())))
            : String.valueOf(random.nextInt(random.nextInt(3) == 0 ? 1000 : 30));
    }
}
