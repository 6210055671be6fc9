/** Objects on which the tests of the edges ask their calls. */
final class Worlds {
    private Worlds() {
    }

    /** Adds a gait by its letters; shelf 0 is written over. */
    static int gait(AsTheLastHeMet x, String steps, int atWall) {
        int[] numbers = steps.chars().map("flrs"::indexOf).toArray();
        Check.fill(x, 0, numbers);
        return x.gait(0, numbers.length, atWall);
    }

    /**
     * Three gaits (of 2, 3 and 2 steps), three walkers (a walker, a mirror, a loud one), walls at 10 and 48; an image, an
     * act, a fault and beats since. Shelves: 0 ten ints (the first eight are steps), 1 three bytes, 2 the mirror,
     * 3 nothing, 4 eleven sights of longs, 5 a text that may be told, 6 shorts, but none, 7 a text with a fault.
     */
    static AsTheLastHeMet usual() {
        AsTheLastHeMet x = new AsTheLastHeMet();
        gait(x, "fl", 0);
        gait(x, "sss", 1);
        gait(x, "rf", 2);
        x.wall(10, true);
        x.wall(48, true);
        x.walker(0, 0, 1, 0, 3);
        x.walker(4, 8, 2, 1, 5);
        x.walker(5, 24, 0, 2, 9);
        Check.fill(x, 0, 0, 1, 2, 3, 0, 1, 2, 3, 0, 9);
        x.row(1, 0, 3);
        x.set(1, 0, 5);
        x.set(1, 2, -7);
        x.show(2, 1);
        x.row(4, 3, 33);
        Check.write(x, 5, 0, "wall 11");
        x.row(6, 1, 0);
        Check.write(x, 7, 1, "wal");
        x.streets(7);
        x.act(1, 2, 7);
        x.image();
        x.seed(77);
        x.beat(2);
        x.wall(40, true);
        x.goes();
        x.walker(5, 24, 0, 2, 9);
        return x;
    }

    /** Eight gaits (of 1 to 8 steps of standing) and six walkers, each with the gait of his number, at 10, 12 .. 20. */
    static AsTheLastHeMet full() {
        AsTheLastHeMet x = new AsTheLastHeMet();
        for (int g = 0; g < 8; g++) {
            gait(x, "ssssssss".substring(0, g + 1), 0);
        }
        for (int w = 0; w < 6; w++) {
            x.walker(0, 10 + 2 * w, w % 4, w, 9 - w);
        }
        x.show(2, 5);
        return x;
    }

    /** Five who go about and meet: walkers, a mirror, a keeper, a fickle and a loud one. */
    static AsTheLastHeMet lively() {
        return Check.told("gait 0 fflf;gait 1 fr;gait 2 fffs;gait 0 ff;wall 9;wall 30;walker 0 0 1 0 0;walker 4 16 3 1 0;"
                + "walker 5 24 0 2 0;walker 0 45 0 3 0;walker 6 3 2 1 2");
    }

    /** A keeper (gait 0, he stands) to whom a walker comes in beat 401 alone. */
    static AsTheLastHeMet late() {
        return Check.told("gait 0 s;gait 2 flllsfss;wall 14;wall 25;wall 39;wall 32;wall 48;wall 19;walker 1 26 1 0 0;"
                + "walker 0 4 3 1 0");
    }

    /** The same, a beat later: they meet in beat 400. */
    static AsTheLastHeMet last() {
        AsTheLastHeMet x = late();
        x.beat(1);
        return x;
    }

    /** An object behind so many more beats in truth. */
    static AsTheLastHeMet behind(AsTheLastHeMet x, int beats) {
        for (int left = beats; left > 0; left -= 99) {
            x.beat(Math.min(left, 99));
        }
        return x;
    }
}
