import com.sun.management.ThreadMXBean;
import java.lang.management.ManagementFactory;

/**
 * All calls of one run live in one room: a new object has rows for all that it may ever need, and after that only way() makes
 * something. Counted in bytes that the thread took, by the dearest calls in a rich and in a full object.
 */
public final class RoomTest {
    /** The room's 7.3 million fields and elements, of 4 bytes at the least, are to do for some hundred objects. */
    private static final long BYTES_OF_ONE = 7_300_000L * 4 / 100;
    /** A WAY has 4 numbers; the machine adds a head to each object. */
    private static final long BYTES_OF_WAY = 64;
    /** What counting itself may take. */
    private static final long SLACK = 512;
    private static final ThreadMXBean THREADS = (ThreadMXBean) ManagementFactory.getThreadMXBean();
    private static final StringBuilder SAID = new StringBuilder();
    private static int wrong = 0;
    private static int counted = 0;
    /** What the calls answered goes here, so that none of them can be left out as idle. */
    private static int answers = 0;

    public static void main(String[] args) {
        long spent = 0;
        // The first turn loads classes, which takes bytes of its own: only the last one counts.
        for (int turn = 0; turn < 3; turn++) {
            wrong = 0;
            counted = 0;
            SAID.setLength(0);
            HoleWater[] made = new HoleWater[1];
            long ahead = taken();
            made[0] = new HoleWater();
            spent = taken() - ahead;
            within("a new object", spent, BYTES_OF_ONE);
            ways(made[0]);
            for (Scene scene : Scene.values()) {
                calls(scene);
            }
        }
        System.out.print(SAID);
        System.out.println(counted + " counts, a new object takes " + spent + " bytes, " + wrong + " not as due");
        if (wrong > 0 || counted == 0 || answers == 0) {
            System.exit(1);
        }
    }

    private static long taken() {
        return THREADS.getThreadAllocatedBytes(Thread.currentThread().getId());
    }

    private static void within(String what, long bytes, long most) {
        counted++;
        if (bytes > most) {
            wrong++;
            SAID.append(what).append(" took ").append(bytes).append(" bytes, at most ").append(most).append(" are due\n");
        }
    }

    private static void ways(HoleWater x) {
        x.joint(0, 1, 9);
        x.joint(2, 1, 1);
        long ahead = taken();
        for (int i = 0; i < 30; i++) {
            answers += x.way(i % 6, 1, 1 + i % 20, 1 + i);
        }
        within("24 WAYS", taken() - ahead, 24 * BYTES_OF_WAY + SLACK);
    }

    private static void calls(Scene scene) {
        for (int part = 0; part < 4; part++) {
            HoleWater x = scene.make();
            long ahead = taken();
            for (int i = 0; i < 20; i++) {
                dearest(x, part, i);
            }
            within("part " + part + " of calls in " + scene, taken() - ahead, SLACK);
        }
    }

    private static void dearest(HoleWater x, int part, int i) {
        switch (part) {
            case 0 -> {
                answers += x.hours(60) + x.spill(0, 9999, 8, 60) + x.first(1, 500, 8);
                answers += x.tell(i) + x.check(8);
            }
            case 1 -> {
                answers += x.image() + x.restore() + x.put(i % 3, i % 4, 7) + x.joint(0, 1, 1);
                answers += x.feed(0x313d6b3f6b2b31L, 7) + x.text(i % 2) + x.rain(0) + x.seen(8, 0, 1);
            }
            case 2 -> {
                answers += x.night(2, 2, i % 3) + x.rooms(7, 224) + x.rooms(31, 31 << 8) + x.musts(i, 0) + x.crosses(0, 8, 1, 9);
                answers += x.bottle(8, i % 4) + x.bag(9, i % 4, 24) + x.joined(0, 8, 0) + x.never(0, 8) + x.span(0, 8, 0, 1);
            }
            default -> {
                answers += x.sheet(0, 32, 24) + x.place(0, 3, i) + x.move(0, 0, 0, 3, 9) + x.pours(0, 1, 0, 0, 9);
                answers += x.voice(3, i % 4, i) + x.trace(0) + x.stuff(1, 1) + x.count(11) + x.hangs(8, true) + x.quick(0, 8);
            }
        }
    }
}
