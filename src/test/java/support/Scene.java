import java.util.ArrayList;
import java.util.List;

/** Objects in states worth asking about, and a wide asking of them, in parts that keep within 512 calls. */
enum Scene {
    /** A new object. */
    EMPTY,
    /** Something of everything: HOLES 0 .. 2, ROOMS 3, 4, SPRINGS 5 .. 7, a SEA 8; WAYS 0 .. 9; SHEET 3 is missing. */
    RICH,
    /** No room anywhere, NOW is 999: HOLES 0 .. 5, ROOMS 6, 7, SPRINGS 8 .. 13, SEAS 14, 15. */
    FULL;

    static final int PARTS = 10;

    HoleWater make() {
        HoleWater x = new HoleWater();
        if (this == RICH) {
            fillRich(x);
        } else if (this == FULL) {
            fillFull(x);
        }
        return x;
    }

    private static void fillRich(HoleWater x) {
        int[][] joints = {{0, 10, 90}, {0, 30, 80}, {0, 55, 85}, {1, 20, 50}, {1, 40, 45}, {2, 5, 10}, {2, 45, 12}, {2, 70, 8}, {3, 99, 0}};
        for (int[] j : joints) {
            x.joint(j[0], j[1], j[2]);
        }
        int[][] ways = {{0, 3, 3, 5}, {3, 103, 4, 7}, {2, 204, 2, 10}, {3, 306, 5, 15}, {0, 305, 6, 1}, {4, 406, 2, 4}, {0, 407, 3, 9},
            {5, 204, 1, 3}, {1, 208, 9, 2}, {0, 304, 2, 2}};
        for (int[] w : ways) {
            x.way(w[0], w[1], w[2], w[3]);
        }
        Due.text(x, 0, "12+k+f*9");
        Due.text(x, 1, "4+s");
        x.fade(1, 2);
        x.fade(3, 1);
        x.put(0, 0, 1000);
        x.put(1, 1, 400);
        x.put(2, 2, 5000);
        x.put(0, 3, 60);
        x.hours(9);
        x.bottle(6, 0);
        x.bottle(5, 0);
        x.bag(6, 1, 5);
        x.flood(true);
        x.bag(7, 2, 9);
        x.town(6, true);
        x.tell(3);
        x.image();
        x.sheet(0, 16, 5);
        x.place(0, 0, 300);
        x.place(0, 1, -4);
        x.place(0, 2, 70000);
        x.sheet(1, 16, 3);
        x.place(1, 2, 44);
        x.sheet(2, 8, 24);
        x.place(2, 23, 77);
        x.put(1, 0, 50);
        x.hours(2);
        x.bottle(6, 0);
        x.town(7, true);
        x.voice(3, 2, 7);
        Due.feed(x, "7+k");
        x.tell(5);
        x.tell(6);
    }

    private static void fillFull(HoleWater x) {
        for (int j = 0; j < 16; j++) {
            x.joint(j < 6 ? 0 : j < 8 ? 1 : j < 14 ? 2 : 3, j * 5, j < 6 ? 95 - j : j == 6 ? 50 : j == 7 ? 40 : j < 14 ? 10 : 0);
        }
        for (int i = 0; i < 6; i++) {
            x.way(0, i * 100 + 6, 1, 5);
            x.way(i, 608 + i, 2, 4);
            x.way(0, 708 + i, 3, 3);
        }
        x.way(0, 607, 2, 2);
        for (int i = 0; i < 5; i++) {
            x.way(0, i * 100 + 14, 2, 2);
        }
        x.image();
        x.sheet(0, 32, 24);
        x.place(0, 0, 9999);
        x.sheet(1, 8, 2);
        x.place(1, 1, 5);
        for (int i = 0; i < 40; i++) {
            x.put(i % 6, i % 4, 100 + i);
        }
        x.hours(4);
        for (int i = 0; i < 30; i++) {
            x.bottle(8 + i % 6, i % 4);
        }
        x.hours(60);
        x.flood(true);
        for (int i = 0; i < 30; i++) {
            x.bag(8 + i % 6, i % 3, 1 + i % 24);
        }
        for (int i = 0; i < 15; i++) {
            x.hours(60);
        }
        x.hours(35);
        x.voice(0, 2, 9);
        for (int i = 0; i < 24; i++) {
            x.tell(i);
        }
        Due.feed(x, "1+2+3+4+5+6+7+8+9+1+2+3+4+5+6+7+8+9+1+2+3+4+5+6+7+8+9+10+111");
    }

    /** What the object tells in one part of the asking; the order is fixed, so that two objects can be set side by side. */
    static List<Integer> told(HoleWater x, int part) {
        List<Integer> all = new ArrayList<>();
        switch (part) {
            case 0 -> countsAndJoints(x, all);
            case 1 -> ways(x, all);
            case 2 -> putsAndLooks(x, all);
            case 3 -> colours(x, all);
            case 4 -> whatIsSaid(x, all);
            case 5 -> settings(x, all);
            case 6 -> sheets(x, all);
            case 7 -> whatComes(x, all);
            case 8 -> restOfLooks(x, all);
            default -> theImage(x, all);
        }
        return all;
    }

    private static void countsAndJoints(HoleWater x, List<Integer> all) {
        for (int what = 0; what < 12; what++) {
            all.add(x.count(what));
        }
        int joints = x.count(1);
        for (int j = 0; j < joints; j++) {
            for (int what = 0; what < 7; what++) {
                all.add(x.jointIs(j, what));
            }
        }
        int bodies = x.count(8);
        for (int i = 0; i < bodies; i++) {
            all.add(x.trace(i));
        }
    }

    private static void ways(HoleWater x, List<Integer> all) {
        int ways = x.count(2);
        for (int w = 0; w < ways; w++) {
            for (int what = 0; what < 7; what++) {
                all.add(x.wayIs(w, what));
            }
        }
    }

    private static void putsAndLooks(HoleWater x, List<Integer> all) {
        int puts = x.count(3);
        for (int p = 0; p < puts; p++) {
            all.add(x.putIs(p, 0) + 100 * x.putIs(p, 1));
            all.add(x.putIs(p, 2));
        }
        int looks = x.count(4);
        for (int l = 0; l < looks; l++) {
            all.add(x.lookIs(l, 0) + 100 * x.lookIs(l, 4));
        }
    }

    private static void restOfLooks(HoleWater x, List<Integer> all) {
        int puts = x.count(3);
        for (int p = 0; p < puts; p++) {
            all.add(x.putIs(p, 3));
        }
        int looks = x.count(4);
        for (int l = 0; l < looks; l++) {
            all.add(x.lookIs(l, 1) + 100 * x.lookIs(l, 2));
            all.add(x.lookIs(l, 3) + 100 * x.lookIs(l, 5));
        }
    }

    private static void colours(HoleWater x, List<Integer> all) {
        int joints = x.count(1);
        for (int colour = 0; colour < 4; colour++) {
            for (int what = 0; what < 7; what++) {
                all.add(x.stuff(colour, what));
            }
            all.add(x.share(colour));
            for (int j = 0; j < joints; j++) {
                all.add(x.grains(j, colour));
                if (x.jointIs(j, 0) >= 2) {
                    all.add(x.out(j, colour, 1));
                    all.add(x.out(j, colour, 24));
                }
            }
        }
    }

    private static void whatIsSaid(HoleWater x, List<Integer> all) {
        int[] sorts = new int[x.count(1)];
        for (int j = 0; j < sorts.length; j++) {
            sorts[j] = x.jointIs(j, 0);
        }
        for (int h = 0; h < sorts.length; h++) {
            for (int s = 0; s < sorts.length; s++) {
                if (sorts[h] == 0 && sorts[s] == 2) {
                    all.add(x.joined(h, s, 0) + 10 * x.joined(h, s, 1));
                    all.add(x.never(h, s));
                }
            }
        }
    }

    private static void settings(HoleWater x, List<Integer> all) {
        int joints = x.count(1);
        for (int j = 0; j < joints; j++) {
            int sort = x.jointIs(j, 0);
            if (sort == 0) {
                all.add(x.rain(j));
            } else if (sort == 2) {
                all.add(x.seen(j, 1, 0));
                all.add(x.seen(j, 2, 1));
                all.add(x.town(j, false));
            }
        }
        for (int colour = 0; colour < 4; colour++) {
            all.add(x.fade(colour, 0));
        }
        all.add(x.flood(false));
        for (int k = 1; k <= 6; k++) {
            all.add(x.tell(k));
        }
        all.add(x.text(0));
        for (int j = 0; j < joints; j++) {
            if (x.jointIs(j, 0) == 0) {
                all.add(x.rain(j));
            }
        }
    }

    /** SHEETS show by what can be poured from them; the IMAGE has room for it. */
    private static void sheets(HoleWater x, List<Integer> all) {
        all.add(x.restore());
        for (int sheet = 0; sheet < 4; sheet++) {
            all.add(x.move(sheet, 0, 0, 0, 0));
            for (int i = 0; i < 25; i++) {
                all.add(x.pours(0, 0, sheet, i, 1));
            }
        }
        int puts = x.count(3);
        for (int p = 0; p < puts; p++) {
            all.add(x.putIs(p, 2));
        }
    }

    private static void whatComes(HoleWater x, List<Integer> all) {
        int joints = x.count(1);
        for (int j = 0; j < joints; j++) {
            if (x.jointIs(j, 0) >= 2) {
                all.add(x.spill(0, 500, j, 20));
                all.add(x.check(j));
                x.tell(7);
            }
        }
        for (int i = 0; i < 6; i++) {
            all.add(x.hours(1 + i));
            for (int j = 0; j < joints; j++) {
                all.add(x.jointIs(j, 4));
            }
        }
        for (int colour = 0; colour < 4; colour++) {
            for (int what = 0; what < 7; what++) {
                all.add(x.stuff(colour, what));
            }
        }
    }

    private static void theImage(HoleWater x, List<Integer> all) {
        all.add(x.restore());
        countsAndJoints(x, all);
        all.add(x.hours(3));
        for (int colour = 0; colour < 4; colour++) {
            for (int what = 0; what < 7; what++) {
                all.add(x.stuff(colour, what));
            }
        }
        all.add(x.image());
    }
}
