import java.util.ArrayDeque;
import java.util.ArrayList;
import java.util.Arrays;
import java.util.HashSet;
import java.util.List;
import java.util.Set;

/**
 * The document once more, said another way: lists of what is where in place of rows, all choices tried in place of
 * searches, tables in place of classes. Slow, and free to use the whole library.
 */
public final class PlainModel {
    private static final int[] ABOVE = {-1, 0, 0, 1, 0, 2};

    private record Joint(int sort, int east, int height) { }

    private record Passage(int kind, int from, int to, int length, int n) {
        int takes() {
            return switch (kind) {
                case 1, 3 -> length / 2 + 1;
                case 2, 5 -> length * 2;
                default -> length;
            };
        }
    }

    /** WATER and GRAINS that went into a WAY together. */
    private record Parcel(int way, int hour, int[] load) { }

    private record Put(int hole, int colour, int grains, int hour) { }

    private record Look(int spring, int colour, int hour, int n, boolean saw, boolean flood, int grains, int putsAhead) { }

    /** What came OUT at a JOINT in an HOUR. */
    private record Outflow(int joint, int hour, int[] load) { }

    private static final class State {
        int now;
        boolean flood;
        int[] fades = new int[4];
        List<Joint> joints = new ArrayList<>();
        List<Passage> ways = new ArrayList<>();
        List<int[]> at = new ArrayList<>();
        List<int[]> held = new ArrayList<>();
        List<Parcel> parcels = new ArrayList<>();
        List<Outflow> outflows = new ArrayList<>();
        List<Put> puts = new ArrayList<>();
        List<Look> looks = new ArrayList<>();
        Set<Integer> towns = new HashSet<>();
        int[] stuck = new int[4];
        int[] faded = new int[4];
        int[] lost = new int[5];
        String tape = "";
        String[] texts = new String[2];
        List<Integer> waits = new ArrayList<>();

        State copy() {
            State c = new State();
            c.now = now;
            c.flood = flood;
            c.fades = fades.clone();
            c.joints = new ArrayList<>(joints);
            c.ways = new ArrayList<>(ways);
            at.forEach(load -> c.at.add(load.clone()));
            held.forEach(load -> c.held.add(load.clone()));
            parcels.forEach(p -> c.parcels.add(new Parcel(p.way, p.hour, p.load.clone())));
            c.outflows = new ArrayList<>(outflows);
            c.puts = new ArrayList<>(puts);
            c.looks = new ArrayList<>(looks);
            c.towns = new HashSet<>(towns);
            c.stuck = stuck.clone();
            c.faded = faded.clone();
            c.lost = lost.clone();
            c.tape = tape;
            c.texts = texts.clone();
            c.waits = new ArrayList<>(waits);
            return c;
        }

        int rain(int hole) {
            if (texts[0] == null) {
                return 10;
            }
            int v = told(texts[0], "hdkf", now % 24, now / 24, hole, flood ? 1 : 0);
            return v < 0 ? 0 : v > 999 ? 999 : v;
        }

        void hour() {
            for (int w = 0; w < ways.size(); w++) {
                Passage way = ways.get(w);
                int[] came = new int[5];
                for (int p = 0; p < parcels.size(); p++) {
                    Parcel parcel = parcels.get(p);
                    if (parcel.way == w && parcel.hour + way.takes() == now) {
                        add(came, parcel.load);
                        parcels.remove(p--);
                    }
                }
                for (int c = 0; c < 4; c++) {
                    int hundredths = fades[c] * way.takes();
                    int gone = came[c + 1] * (hundredths > 100 ? 100 : hundredths) / 100;
                    came[c + 1] -= gone;
                    faded[c] += gone;
                }
                if (way.kind == 4) {
                    int[] pool = held.get(w);
                    add(pool, came);
                    for (int t = 0; t < 5; t++) {
                        came[t] = (pool[t] + way.n - 1) / way.n;
                        pool[t] -= came[t];
                    }
                }
                add(at.get(way.to), came);
            }
            for (int j = 0; j < joints.size(); j++) {
                if (joints.get(j).sort == 0) {
                    at.get(j)[0] += rain(j);
                }
            }
            for (int j = 0; j < joints.size(); j++) {
                if (joints.get(j).sort >= 2) {
                    outflows.add(new Outflow(j, now, at.get(j).clone()));
                    Arrays.fill(at.get(j), 0);
                }
            }
            for (int j = 0; j < joints.size(); j++) {
                if (joints.get(j).sort < 2 && at.get(j)[0] > 0) {
                    flowOn(j);
                }
            }
            now++;
        }

        private void flowOn(int j) {
            int[] here = at.get(j);
            int all = here[0];
            int rest = all;
            int[][] loads = new int[ways.size()][5];
            List<Integer> others = new ArrayList<>();
            boolean any = false;
            for (int w = 0; w < ways.size(); w++) {
                Passage way = ways.get(w);
                if (way.from == j && way.kind == 3) {
                    any = true;
                    if (rest > way.n) {
                        loads[w][0] = rest - way.n;
                        rest = way.n;
                    }
                } else if (way.from == j) {
                    others.add(w);
                }
            }
            // bucket by bucket, in turn
            for (int i = 0; !others.isEmpty() && rest > 0; i++) {
                loads[others.get(i % others.size())][0]++;
                rest--;
            }
            here[0] = rest;
            if (!any && others.isEmpty()) {
                return;
            }
            int most = -1;
            for (int w = ways.size() - 1; w >= 0; w--) {
                if (ways.get(w).from == j && (most < 0 || loads[w][0] >= loads[most][0])) {
                    most = w;
                }
            }
            for (int t = 1; t < 5; t++) {
                long grains = here[t];
                for (int w = 0; w < ways.size(); w++) {
                    loads[w][t] = (int) (grains * loads[w][0] / all);
                    here[t] -= loads[w][t];
                }
                if (rest == 0) {
                    loads[most][t] += here[t];
                    here[t] = 0;
                }
            }
            for (int w = 0; w < ways.size(); w++) {
                Passage way = ways.get(w);
                for (int t = 1; t < 5 && (way.kind == 2 || way.kind == 5); t++) {
                    int stays = loads[w][t] / way.n;
                    stuck[t - 1] += stays;
                    loads[w][t] -= stays;
                }
                if (way.kind == 5) {
                    add(lost, loads[w]);
                } else {
                    parcels.add(new Parcel(w, now, loads[w]));
                }
            }
        }

        int came(int joint, int thing, int hour) {
            int sum = 0;
            for (Outflow o : outflows) {
                sum += o.joint == joint && o.hour == hour ? o.load[thing] : 0;
            }
            return sum;
        }

        int seen(int spring, int colour, int sort) {
            if (texts[1] == null) {
                return 5;
            }
            int v = told(texts[1], "wcs", came(spring, 0, now - 1), colour, sort);
            return v < 1 ? 1 : v > 9999 ? 9999 : v;
        }

        int said(int hole, int spring, int water) {
            boolean sure = false;
            boolean may = false;
            boolean notYet = false;
            for (Look look : looks) {
                if (look.spring != spring || water == 1 && look.flood || water == 2 && !look.flood) {
                    continue;
                }
                boolean here = false;
                boolean elsewhere = false;
                for (Put put : puts.subList(0, look.putsAhead)) {
                    here |= put.colour == look.colour && put.hole == hole;
                    elsewhere |= put.colour == look.colour && put.hole != hole;
                }
                sure |= look.saw && here && !elsewhere;
                may |= look.saw && here;
                notYet |= !look.saw && here;
            }
            return sure ? 3 : may ? 2 : notYet ? 1 : 0;
        }

        int below(int thing) {
            int sum = 0;
            for (int[] load : at) {
                sum += load[thing];
            }
            for (int[] load : held) {
                sum += load[thing];
            }
            for (Parcel p : parcels) {
                sum += p.load[thing];
            }
            return sum;
        }
    }

    private State s = new State();
    private State kept = null;
    private int images = 0;
    private final int[] told = new int[7];
    private final List<Integer> trace = new ArrayList<>();
    private final Object[] sheets = new Object[4];

    private static void add(int[] to, int[] more) {
        for (int t = 0; t < 5; t++) {
            to[t] += more[t];
        }
    }

    private int error(int k) {
        told[k]++;
        return -1000000 - k;
    }

    private boolean noJoint(int j) {
        return j < 0 || j >= s.joints.size();
    }

    private boolean noWay(int w) {
        return w < 0 || w >= s.ways.size();
    }

    private int sort(int j) {
        return s.joints.get(j).sort;
    }

    private static boolean not(int v, int least, int most) {
        return v < least || v > most;
    }

    public int joint(int sort, int east, int height) {
        if (not(sort, 0, 3) || not(east, 0, 99) || not(height, 0, 99)) {
            return error(1);
        }
        if (s.joints.size() == 16) {
            return error(4);
        }
        s.joints.add(new Joint(sort, east, height));
        s.at.add(new int[5]);
        return s.joints.size() - 1;
    }

    public int jointIs(int joint, int what) {
        if (noJoint(joint) || not(what, 0, 6)) {
            return error(1);
        }
        Joint j = s.joints.get(joint);
        int ever = 0;
        for (Outflow o : s.outflows) {
            ever += o.joint == joint ? o.load[0] : 0;
        }
        return new int[] {j.sort, j.east, j.height, s.at.get(joint)[0], s.came(joint, 0, s.now - 1), ever,
            s.towns.contains(joint) ? 1 : 0}[what];
    }

    public int way(int kind, int ends, int time, int n) {
        if (not(kind, 0, 5) || ends < 0 || noJoint(ends / 100) || noJoint(ends % 100) || not(time, 1, 20) || not(n, 1, 99)) {
            return error(1);
        }
        int from = ends / 100;
        int to = ends % 100;
        if (sort(from) > 1 || sort(to) == 0) {
            return error(5);
        }
        if (s.joints.get(to).height >= s.joints.get(from).height) {
            return error(3);
        }
        if (s.ways.size() == 24) {
            return error(4);
        }
        s.ways.add(new Passage(kind, from, to, time, n));
        s.held.add(new int[5]);
        return s.ways.size() - 1;
    }

    public int as(int way, int kind) {
        if (noWay(way) || not(kind, 0, 5)) {
            return error(1);
        }
        for (int k = s.ways.get(way).kind; k >= 0; k = ABOVE[k]) {
            if (k == kind) {
                return s.ways.get(way).takes();
            }
        }
        return error(5);
    }

    public int wayIs(int way, int what) {
        if (noWay(way) || not(what, 0, 6)) {
            return error(1);
        }
        Passage w = s.ways.get(way);
        int water = s.held.get(way)[0];
        for (Parcel p : s.parcels) {
            water += p.way == way ? p.load[0] : 0;
        }
        return new int[] {w.kind, w.from, w.to, w.length, w.n, w.takes(), water}[what];
    }

    private boolean reaches(int from, int to, boolean may) {
        boolean found = from == to;
        for (Passage w : s.ways) {
            found = found || w.from == from && w.kind != 5 && (may || w.kind != 3) && reaches(w.to, to, may);
        }
        return found;
    }

    public int hangs(int joint, boolean may) {
        if (noJoint(joint)) {
            return error(1);
        }
        int bits = 0;
        for (int j = 0; j < s.joints.size(); j++) {
            bits |= sort(j) == 0 && reaches(j, joint, may) ? 1 << j : 0;
        }
        return bits;
    }

    private int hoursTo(int from, int to) {
        int best = from == to ? 0 : Integer.MAX_VALUE;
        for (Passage w : s.ways) {
            if (w.from == from && w.kind != 5) {
                int rest = hoursTo(w.to, to);
                best = rest == Integer.MAX_VALUE ? best : Math.min(best, rest + w.takes());
            }
        }
        return best;
    }

    public int quick(int from, int to) {
        if (noJoint(from) || noJoint(to)) {
            return error(1);
        }
        int hours = hoursTo(from, to);
        return hours == Integer.MAX_VALUE ? error(2) : hours;
    }

    public int flood(boolean is) {
        boolean was = s.flood;
        s.flood = is;
        return was ? 1 : 0;
    }

    public int fade(int colour, int v) {
        if (not(colour, 0, 3) || not(v, 0, 99)) {
            return error(1);
        }
        int was = s.fades[colour];
        s.fades[colour] = v;
        return was;
    }

    public int hours(int n) {
        if (not(n, 1, 60)) {
            return error(1);
        }
        if (s.now + n > 999) {
            return error(3);
        }
        for (int i = 0; i < n; i++) {
            s.hour();
        }
        return s.now;
    }

    public int put(int hole, int colour, int grains) {
        if (noJoint(hole) || not(colour, 0, 3) || not(grains, 1, 9999)) {
            return error(1);
        }
        if (sort(hole) != 0) {
            return error(5);
        }
        if (s.puts.size() == 40) {
            return error(4);
        }
        s.puts.add(new Put(hole, colour, grains, s.now));
        s.at.get(hole)[colour + 1] += grains;
        return s.puts.size() - 1;
    }

    public int putIs(int put, int what) {
        if (not(put, 0, s.puts.size() - 1) || not(what, 0, 3)) {
            return error(1);
        }
        Put p = s.puts.get(put);
        return new int[] {p.hole, p.colour, p.grains, p.hour}[what];
    }

    public int pours(int hole, int colour, int sheet, int i, int n) {
        if (noJoint(hole) || not(colour, 0, 3) || not(sheet, 0, 3) || not(n, 0, 9)) {
            return error(1);
        }
        if (sort(hole) != 0) {
            return error(5);
        }
        if (sheets[sheet] == null) {
            return error(2);
        }
        int before = s.puts.size();
        for (long k = i; k < (long) i + n; k++) {
            if (k < 0 || k >= java.lang.reflect.Array.getLength(sheets[sheet])) {
                return error(1);
            }
            int v = java.lang.reflect.Array.getInt(sheets[sheet], (int) k);
            if (v >= 1 && v <= 9999) {
                if (s.puts.size() == 40) {
                    return error(4);
                }
                put(hole, colour, v);
            }
        }
        return s.puts.size() - before;
    }

    public int grains(int joint, int colour) {
        return noJoint(joint) || not(colour, 0, 3) ? error(1) : s.at.get(joint)[colour + 1];
    }

    public int stuff(int colour, int what) {
        if (not(colour, 0, 3) || not(what, 0, 6)) {
            return error(1);
        }
        int put = 0;
        for (Put p : s.puts) {
            put += p.colour == colour ? p.grains : 0;
        }
        int springs = 0;
        int seas = 0;
        for (Outflow o : s.outflows) {
            springs += sort(o.joint) == 2 ? o.load[colour + 1] : 0;
            seas += sort(o.joint) == 3 ? o.load[colour + 1] : 0;
        }
        return new int[] {put, s.below(colour + 1), s.stuck[colour], s.faded[colour], s.lost[colour + 1], springs, seas}[what];
    }

    public int out(int joint, int colour, int ago) {
        if (noJoint(joint) || not(colour, 0, 3) || not(ago, 1, 24)) {
            return error(1);
        }
        return sort(joint) < 2 ? error(5) : s.came(joint, colour + 1, s.now - ago);
    }

    /** GRAINS of a spill in each of 60 HOURS at a JOINT. */
    private int[] foretell(int hole, int grains, int joint) {
        State t = s.copy();
        t.at.forEach(load -> load[4] = 0);
        t.held.forEach(load -> load[4] = 0);
        t.parcels.forEach(p -> p.load[4] = 0);
        t.at.get(hole)[4] = grains;
        int[] came = new int[60];
        for (int i = 0; i < 60; i++) {
            t.hour();
            came[i] = t.came(joint, 4, t.now - 1);
        }
        return came;
    }

    public int spill(int hole, int grains, int joint, int n) {
        if (noJoint(hole) || not(grains, 1, 9999) || noJoint(joint) || not(n, 1, 60)) {
            return error(1);
        }
        if (sort(hole) != 0 || sort(joint) < 2) {
            return error(5);
        }
        return Arrays.stream(foretell(hole, grains, joint), 0, n).sum();
    }

    public int first(int hole, int grains, int joint) {
        if (noJoint(hole) || not(grains, 1, 9999) || noJoint(joint)) {
            return error(1);
        }
        if (sort(hole) != 0 || sort(joint) < 2) {
            return error(5);
        }
        int[] came = foretell(hole, grains, joint);
        for (int i = 0; i < 60; i++) {
            if (came[i] > 0) {
                return i + 1;
            }
        }
        return error(2);
    }

    public int feed(long word, int n) {
        if (not(n, 1, 8)) {
            return error(1);
        }
        if (s.tape.length() + n > 60) {
            return error(4);
        }
        for (int i = 0; i < n; i++) {
            s.tape += (char) (word >> 8 * i & 0xFF);
        }
        return s.tape.length();
    }

    public int text(int use) {
        if (not(use, 0, 1)) {
            return error(1);
        }
        String read = s.tape;
        s.tape = "";
        int cases = cases(read, use == 0 ? "hdkf" : "wcs");
        if (cases > 0) {
            s.texts[use] = read;
        }
        return cases;
    }

    /** A machine with a counter in place of a reader by rules: which signs may stand next. */
    private static int cases(String text, String names) {
        int cases = 1;
        int open = 0;
        // 0: the SUM of the CASE, 1: left in a TEST, 2: right in a TEST
        int part = 0;
        // 0: ONE is due, 1 .. 3: so many digits stood, 4: something else that ends ONE stood
        int ahead = 0;
        for (int i = 0; i < text.length(); i++) {
            char sign = text.charAt(i);
            boolean digit = "0123456789".indexOf(sign) >= 0;
            boolean ended = ahead > 0;
            boolean free = ended && open == 0;
            if (digit && ahead < 3) {
                ahead++;
            } else if (!ended && names.indexOf(sign) >= 0) {
                ahead = 4;
            } else if (!ended && sign == '(' && open < 4) {
                open++;
            } else if (ended && sign == ')' && open > 0) {
                open--;
                ahead = 4;
            } else if (ended && "+-*/".indexOf(sign) >= 0) {
                ahead = 0;
            } else if (free && sign == '?' && part == 0 || free && sign == '&' && part == 2) {
                part = 1;
                ahead = 0;
            } else if (free && "<=>".indexOf(sign) >= 0 && part == 1) {
                part = 2;
                ahead = 0;
            } else if (free && sign == ';' && part != 1 && cases < 6) {
                cases++;
                part = 0;
                ahead = 0;
            } else {
                return -10 - i;
            }
        }
        return ahead > 0 && open == 0 && part != 1 ? cases : -10 - text.length();
    }

    private static int told(String text, String names, int... values) {
        for (String one : text.split(";")) {
            String[] halves = one.split("\\?");
            boolean holds = true;
            if (halves.length > 1) {
                for (String test : halves[1].split("&")) {
                    String[] sides = test.split("[<=>]");
                    int order = Integer.compare(worth(sides[0], names, values), worth(sides[1], names, values));
                    char sign = test.charAt(sides[0].length());
                    holds &= order == (sign == '<' ? -1 : sign == '=' ? 0 : 1);
                }
            }
            if (holds) {
                return worth(halves[0], names, values);
            }
        }
        return 0;
    }

    /** By two stacks. */
    private static int worth(String sum, String names, int... values) {
        ArrayDeque<Integer> numbers = new ArrayDeque<>();
        ArrayDeque<Character> signs = new ArrayDeque<>();
        for (int i = 0; i < sum.length(); i++) {
            char sign = sum.charAt(i);
            if (Character.isDigit(sign)) {
                int end = i;
                while (end < sum.length() && Character.isDigit(sum.charAt(end))) {
                    end++;
                }
                numbers.push(Integer.parseInt(sum.substring(i, end)));
                i = end - 1;
            } else if (names.indexOf(sign) >= 0) {
                numbers.push(values[names.indexOf(sign)]);
            } else if (sign == '(') {
                signs.push(sign);
            } else if (sign == ')') {
                while (signs.peek() != '(') {
                    apply(numbers, signs.pop());
                }
                signs.pop();
            } else {
                while (!signs.isEmpty() && signs.peek() != '(' && rank(signs.peek()) >= rank(sign)) {
                    apply(numbers, signs.pop());
                }
                signs.push(sign);
            }
        }
        while (!signs.isEmpty()) {
            apply(numbers, signs.pop());
        }
        return numbers.pop();
    }

    private static int rank(char sign) {
        return sign == '*' || sign == '/' ? 2 : 1;
    }

    private static void apply(ArrayDeque<Integer> numbers, char sign) {
        int right = numbers.pop();
        int left = numbers.pop();
        long v = switch (sign) {
            case '+' -> (long) left + right;
            case '-' -> (long) left - right;
            case '*' -> (long) left * right;
            default -> right == 0 ? 0 : (long) left / right;
        };
        numbers.push((int) v);
    }

    public int rain(int hole) {
        return noJoint(hole) ? error(1) : sort(hole) != 0 ? error(5) : s.rain(hole);
    }

    public int seen(int spring, int colour, int sort) {
        if (noJoint(spring) || not(colour, 0, 3) || not(sort, 0, 1)) {
            return error(1);
        }
        return sort(spring) != 2 ? error(5) : s.seen(spring, colour, sort);
    }

    public int bottle(int spring, int colour) {
        if (noJoint(spring) || not(colour, 0, 3)) {
            return error(1);
        }
        Look look = look(spring, colour, 0, 1);
        return look == null ? error(sort(spring) != 2 ? 5 : 4) : look.saw ? look.grains : 0;
    }

    public int bag(int spring, int colour, int n) {
        if (noJoint(spring) || not(colour, 0, 3) || not(n, 1, 24)) {
            return error(1);
        }
        Look look = look(spring, colour, n, n);
        return look == null ? error(sort(spring) != 2 ? 5 : 4) : look.saw ? 1 : 0;
    }

    private Look look(int spring, int colour, int n, int hours) {
        if (sort(spring) != 2 || s.looks.size() == 60) {
            return null;
        }
        int grains = 0;
        for (int ago = 1; ago <= hours; ago++) {
            grains += s.came(spring, colour + 1, s.now - ago);
        }
        boolean saw = grains >= s.seen(spring, colour, n > 0 ? 1 : 0);
        Look look = new Look(spring, colour, s.now, n, saw, s.flood, grains, s.puts.size());
        s.looks.add(look);
        return look;
    }

    public int lookIs(int look, int what) {
        if (not(look, 0, s.looks.size() - 1) || not(what, 0, 5)) {
            return error(1);
        }
        Look l = s.looks.get(look);
        return new int[] {l.spring, l.colour, l.hour, l.n, l.saw ? 1 : 0, l.flood ? 1 : 0}[what];
    }

    public int joined(int hole, int spring, int water) {
        if (noJoint(hole) || noJoint(spring) || not(water, 0, 2)) {
            return error(1);
        }
        return sort(hole) != 0 || sort(spring) != 2 ? error(5) : s.said(hole, spring, water);
    }

    public int never(int hole, int spring) {
        if (noJoint(hole) || noJoint(spring)) {
            return error(1);
        }
        if (sort(hole) != 0 || sort(spring) != 2) {
            return error(5);
        }
        int many = 0;
        for (Look look : s.looks) {
            many += look.spring == spring && !look.saw && s.puts.subList(0, look.putsAhead).stream()
                .anyMatch(p -> p.hole == hole && p.colour == look.colour) ? 1 : 0;
        }
        return many;
    }

    public int span(int hole, int spring, int colour, int end) {
        if (noJoint(hole) || noJoint(spring) || not(colour, 0, 3) || not(end, 0, 1)) {
            return error(1);
        }
        if (sort(hole) != 0 || sort(spring) != 2) {
            return error(5);
        }
        List<Put> puts = s.puts.stream().filter(p -> p.colour == colour).toList();
        if (puts.size() != 1 || puts.get(0).hole != hole) {
            return error(3);
        }
        int start = puts.get(0).hour;
        int number = s.puts.indexOf(puts.get(0));
        int vain = 0;
        for (Look look : s.looks) {
            if (look.spring == spring && look.colour == colour) {
                if (look.saw) {
                    return end == 1 ? look.hour - start : vain;
                }
                vain = look.putsAhead > number ? look.hour - start : vain;
            }
        }
        return error(2);
    }

    public int musts(int i, int what) {
        if (i < 0 || not(what, 0, 2)) {
            return error(1);
        }
        List<int[]> all = new ArrayList<>();
        for (int h = 0; h < s.joints.size(); h++) {
            for (int p = 0; p < s.joints.size(); p++) {
                if (sort(h) == 0 && sort(p) == 2 && s.said(h, p, 2) == 3 && s.said(h, p, 1) == 1) {
                    all.add(new int[] {h, p, s.joints.get(h).height - s.joints.get(p).height});
                }
            }
        }
        return i < all.size() ? all.get(i)[what] : error(2);
    }

    private int turn(int a, int b, int c) {
        Joint p = s.joints.get(a);
        Joint q = s.joints.get(b);
        Joint r = s.joints.get(c);
        return Integer.signum(p.east * (q.height - r.height) + q.east * (r.height - p.height) + r.east * (p.height - q.height));
    }

    public int crosses(int a, int x, int b, int y) {
        if (noJoint(a) || noJoint(x) || noJoint(b) || noJoint(y) || a == b || x == y) {
            return error(1);
        }
        if (sort(a) != 0 || sort(b) != 0 || sort(x) != 2 || sort(y) != 2) {
            return error(5);
        }
        boolean apart = s.said(a, x, 0) == 3 && s.said(b, y, 0) == 3 && s.said(a, y, 0) <= 1 && s.said(b, x, 0) <= 1;
        return apart && turn(a, x, b) * turn(a, x, y) == -1 && turn(b, y, a) * turn(b, y, x) == -1 ? 1 : 0;
    }

    private static List<Integer> list(int bits) {
        List<Integer> all = new ArrayList<>();
        for (int i = 0; i < 32; i++) {
            if ((bits >>> i & 1) == 1) {
                all.add(i);
            }
        }
        return all;
    }

    public int rooms(int holes, int springs) {
        List<Integer> hs = list(holes);
        List<Integer> ps = list(springs);
        if (hs.stream().anyMatch(this::noJoint) || ps.stream().anyMatch(this::noJoint)) {
            return error(1);
        }
        if (hs.stream().anyMatch(h -> sort(h) != 0) || ps.stream().anyMatch(p -> sort(p) != 2)) {
            return error(5);
        }
        if (hs.size() > 5 || ps.size() > 5) {
            return error(4);
        }
        int width = ps.size();
        int sure = 0;
        int banned = 0;
        for (int h = 0; h < hs.size(); h++) {
            for (int p = 0; p < width; p++) {
                int said = s.said(hs.get(h), ps.get(p), 0);
                sure |= said == 3 ? 1 << h * width + p : 0;
                banned |= said == 1 ? 1 << h * width + p : 0;
            }
        }
        Set<Integer> rooms = new HashSet<>();
        for (int h = 0; h < 1 << hs.size(); h++) {
            for (int p = 0; p < 1 << width; p++) {
                int room = 0;
                for (int row : list(h)) {
                    room |= p << row * width;
                }
                if ((room & banned) == 0) {
                    rooms.add(room & sure);
                }
            }
        }
        // all that so many ROOMS can be made to hold together
        Set<Integer> reached = new HashSet<>(Set.of(0));
        for (int many = 0;; many++) {
            if (reached.contains(sure)) {
                return many;
            }
            Set<Integer> more = new HashSet<>();
            for (int one : reached) {
                for (int room : rooms) {
                    more.add(one | room);
                }
            }
            reached = more;
        }
    }

    public int town(int spring, boolean is) {
        if (noJoint(spring)) {
            return error(1);
        }
        if (sort(spring) != 2) {
            return error(5);
        }
        return (is ? !s.towns.add(spring) : s.towns.remove(spring)) ? 1 : 0;
    }

    public int night(int holes, int springs, int what) {
        if (not(holes, 1, 4) || not(springs, 1, 6) || not(what, 0, 2)) {
            return error(1);
        }
        int count = s.joints.size();
        int free = 0;
        int all = 0;
        boolean[][] nothing = new boolean[count][count];
        for (int h = 0; h < count; h++) {
            if (sort(h) == 0) {
                boolean known = false;
                for (int p = 0; p < count; p++) {
                    if (sort(p) == 2) {
                        int said = s.said(h, p, 0);
                        nothing[h][p] = said == 0;
                        known |= s.towns.contains(p) && said >= 2;
                    }
                }
                free |= known ? 0 : 1 << h;
            }
            all |= sort(h) == 2 ? 1 << h : 0;
        }
        int[] best = null;
        for (int h = 0; h < 1 << count; h++) {
            if ((h & ~free) != 0 || Integer.bitCount(h) != holes) {
                continue;
            }
            for (int p = 0; p < 1 << count; p++) {
                if ((p & ~all) != 0 || Integer.bitCount(p) != springs) {
                    continue;
                }
                int pairs = 0;
                for (int i : list(h)) {
                    for (int j : list(p)) {
                        pairs += nothing[i][j] ? 1 : 0;
                    }
                }
                if (best == null || pairs > best[0]) {
                    best = new int[] {pairs, h, p};
                }
            }
        }
        return best == null ? error(2) : best[what];
    }

    public int share(int colour) {
        if (not(colour, 0, 3)) {
            return error(1);
        }
        int left = 0;
        for (Put p : s.puts) {
            left += p.colour == colour ? p.grains : 0;
        }
        Set<List<Integer>> done = new HashSet<>();
        for (Look look : s.looks) {
            if (look.n == 0 && look.saw && look.colour == colour && done.add(List.of(look.spring, look.hour))) {
                left -= look.grains;
            }
        }
        return left;
    }

    private static final class Parted extends RuntimeException {
        private static final long serialVersionUID = 1;
    }

    private static final String[][] BODIES = {
        {"runs", "holds", "spills", "tells"}, {"runs", "", "", "tells"}, {"", "holds", "", ""}, {"runs", "", "spills", ""},
        {"", "holds", "spills", ""}, {"", "", "", "tells"}};
    private static final int[][] NUMBERS = {
        {10, 11, 12, 13}, {20, 0, 0, 21}, {0, 30, 0, 0}, {40, 0, 41, 0}, {0, 50, 51, 0}, {0, 0, 0, 60}};

    /** The BODY of a KIND, or of the next KIND above that has one. */
    private int body(Passage w, int kind, int act, int x) {
        int k = kind;
        while (BODIES[k][act].isEmpty()) {
            k = ABOVE[k];
        }
        int up = ABOVE[k];
        int number = NUMBERS[k][act];
        trace.add(number);
        return switch (number) {
            case 10 -> x + w.length;
            case 11 -> body(w, w.kind, 0, x) * 2;
            case 12 -> body(w, w.kind, 1, x) - w.n;
            case 13 -> {
                if (w.n == w.length) {
                    throw new Parted();
                }
                yield x / (w.n - w.length);
            }
            case 20 -> body(w, up, 0, x) - 1;
            case 21 -> body(w, up, 3, x) + body(w, w.kind, 0, 1);
            case 30 -> body(w, up, 1, x) ^ w.n;
            case 40 -> body(w, up, 0, x + w.n);
            case 41 -> body(w, up, 2, x) * 3;
            case 50 -> body(w, up, 1, x) + w.n;
            case 51 -> 0 - body(w, up, 2, x);
            default -> body(w, w.kind, 0, x) - body(w, up, 3, x);
        };
    }

    public int voice(int way, int act, int x) {
        if (noWay(way) || not(act, 0, 3)) {
            return error(1);
        }
        trace.clear();
        Passage w = s.ways.get(way);
        try {
            return body(w, w.kind, act, x);
        } catch (Parted parted) {
            return error(6);
        }
    }

    public int trace(int i) {
        return not(i, 0, Math.min(30, trace.size()) - 1) ? error(2) : trace.get(i);
    }

    public int sheet(int sheet, int bits, int n) {
        if (not(sheet, 0, 3) || !List.of(0, 8, 16, 32).contains(bits)) {
            return error(1);
        }
        if (bits == 0) {
            sheets[sheet] = null;
            return 1;
        }
        if (n < 0) {
            return error(3);
        }
        if (n > 24) {
            return error(1);
        }
        sheets[sheet] = bits == 8 ? new byte[n] : bits == 16 ? new short[n] : new int[n];
        return 1;
    }

    public int place(int sheet, int i, int v) {
        if (not(sheet, 0, 3)) {
            return error(1);
        }
        Object row = sheets[sheet];
        if (row == null) {
            return error(2);
        }
        if (not(i, 0, java.lang.reflect.Array.getLength(row) - 1)) {
            return error(1);
        }
        if (row instanceof byte[] bytes) {
            bytes[i] = (byte) v;
        } else if (row instanceof short[] shorts) {
            shorts[i] = (short) v;
        } else if (row instanceof int[] ints) {
            ints[i] = v;
        }
        return 1;
    }

    @SuppressWarnings("SuspiciousSystemArraycopy")
    public int move(int sheet, int i, int other, int j, int n) {
        if (not(sheet, 0, 3) || not(other, 0, 3)) {
            return error(1);
        }
        if (sheets[sheet] == null || sheets[other] == null) {
            return error(2);
        }
        try {
            System.arraycopy(sheets[sheet], i, sheets[other], j, n);
        } catch (ArrayStoreException unlike) {
            return error(5);
        } catch (IndexOutOfBoundsException beyond) {
            return error(1);
        }
        return n;
    }

    public int image() {
        kept = s.copy();
        return ++images;
    }

    public int restore() {
        if (kept == null) {
            return error(2);
        }
        s = kept.copy();
        return s.now;
    }

    public int tell(int v) {
        if (s.waits.size() == 24) {
            return error(4);
        }
        s.waits.add(v);
        return s.waits.size();
    }

    /** For tests: WATER that will come OUT at a JOINT in the next HOURS. */
    int[] waterToCome(int joint, int n) {
        State t = s.copy();
        int[] water = new int[n];
        for (int i = 0; i < n; i++) {
            t.hour();
            water[i] = t.came(joint, 0, t.now - 1);
        }
        return water;
    }

    public int check(int joint) {
        List<Integer> waits = s.waits;
        s.waits = new ArrayList<>();
        if (noJoint(joint)) {
            return error(1);
        }
        if (sort(joint) < 2) {
            return error(5);
        }
        State t = s.copy();
        int answer = 0;
        for (int i = 0; i < waits.size(); i++) {
            t.hour();
            answer = answer == 0 && t.came(joint, 0, t.now - 1) != waits.get(i) ? i + 1 : answer;
        }
        return answer;
    }

    public int count(int what) {
        if (not(what, 0, 11)) {
            return error(1);
        }
        return new int[] {s.now, s.joints.size(), s.ways.size(), s.puts.size(), s.looks.size(),
            (int) s.looks.stream().filter(l -> l.saw).count(), s.tape.length(), s.waits.size(), trace.size(), s.flood ? 1 : 0,
            s.lost[0], s.below(0)}[what];
    }

    public int told(int k) {
        return not(k, 1, 6) ? error(1) : told[k];
    }
}
