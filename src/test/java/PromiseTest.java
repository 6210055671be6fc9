/** Each promise of the document by answers found by hand: ordinary inputs, the edges it names, wrong inputs. */
public final class PromiseTest {
    private PromiseTest() {
    }

    public static void main(String[] args) {
        promise1New();
        promise2Row();
        promise3Set();
        promise4Copy();
        promise5Element();
        promises6And7ShowHolds();
        promise8Says();
        promise9Gait();
        promise10GaitOf();
        promises11And12Walker();
        promises13And14Wall();
        promise15Streets();
        promise15Told();
        promise16Fault();
        promise16Numbers();
        promise16Room();
        promise16AsThingsStand();
        steps();
        meetings();
        mirrorsAndFickles();
        loud();
        promise17At();
        promises18To21Gaits();
        promises22And23Meet();
        promise24Ring();
        promise25Alone();
        promise26Alike();
        lastBeats();
        promise27Hire();
        promise28Fit();
        promise29Began();
        promise30Thief();
        promise31Beat();
        promise32Strangers();
        promise33Goes();
        promise34Teach();
        promise35Seed();
        promises36And37Act();
        promises38And39Image();
        promise40Status();
        Check.close();
    }

    private static void due(String call, long got, long want) {
        Check.due(call, got, want);
    }

    private static void walkerIs(String when, AsTheLastHeMet x, int walker, int... how) {
        for (int i = 0; i < how.length; i++) {
            due(when + ": walkerOf(" + walker + ", " + (i + 1) + ")", x.walkerOf(walker, i + 1), how[i]);
        }
    }

    private static void willBe(AsTheLastHeMet x, int n, int walker, int... how) {
        for (int i = 0; i < how.length; i++) {
            due("at(" + n + ", " + walker + ", " + i + ")", x.at(n, walker, i), how[i]);
        }
    }

    private static void faultIs(AsTheLastHeMet x, String text, int place) {
        Check.write(x, 7, 0, text);
        due("streets of '" + text + "'", x.streets(7), -6);
        due("fault of '" + text + "'", x.fault(), place);
    }

    private static void promise1New() {
        AsTheLastHeMet x = new AsTheLastHeMet();
        due("NONE", AsTheLastHeMet.NONE, -1);
        for (int what = 0; what <= 4; what++) {
            due("new: status", x.status(what), 0);
        }
        due("new: seed", x.status(5), 1);
        for (int place = 0; place < 49; place++) {
            due("new: isWall", x.isWall(place), 0);
        }
        for (int s = 0; s < 8; s++) {
            due("new: holds", x.holds(s), -1);
        }
        due("new: fault", x.fault(), -1);
        due("new: trace", x.trace(0), -1);
        due("new: gaitOf", x.gaitOf(0, -1), -15);
        due("new: walkerOf", x.walkerOf(0, 0), -5);
    }

    private static void promise2Row() {
        AsTheLastHeMet x = new AsTheLastHeMet();
        due("row of none", x.row(0, 0, 0), 1);
        due("row of 160", x.row(7, 3, 160), 1);
        due("row of 161", x.row(7, 3, 161), -7);
        due("row sort 4", x.row(7, 4, 161), -6);
        due("row sort -1", x.row(7, -1, 161), -6);
        due("row of -1", x.row(7, 4, -1), -4);
        due("row shelf 8", x.row(8, 4, -1), -1);
        due("row shelf -1", x.row(-1, 4, -1), -1);
        due("element 159", x.element(7, 159), 0);
        x.set(7, 3, 5);
        x.row(7, 3, 4);
        due("a new row is 0", x.element(7, 3), 0);
        due("set in a row of none", x.set(0, 0, 1), -5);
    }

    private static void promise3Set() {
        AsTheLastHeMet x = new AsTheLastHeMet();
        long big = 0x123456789abcdef0L;
        long[] keeps = {(byte) 0xf0, (short) 0xdef0, 0x9abcdef0, big};
        for (int sort = 0; sort < 4; sort++) {
            x.row(0, sort, 2);
            due("set", x.set(0, 1, big), 1);
            due("kept of sort " + sort, x.element(0, 1), keeps[sort]);
        }
        x.row(0, 0, 1);
        x.set(0, 0, 200);
        due("200 as a byte", x.element(0, 0), -56);
        due("set -1", x.set(0, -1, 1), -5);
        due("set 1", x.set(0, 1, 1), -5);
        due("set in nothing", x.set(1, 0, 1), -3);
        due("set in shelf -1", x.set(-1, 0, 1), -1);
        due("set in shelf 8", x.set(8, 0, 1), -1);
        AsTheLastHeMet y = Check.told("gait 0 s;walker 0 0 0 0 0");
        y.show(0, 0);
        due("set in a walker", y.set(0, 9, 1), -2);
    }

    private static void promise4Copy() {
        AsTheLastHeMet x = new AsTheLastHeMet();
        Check.fill(x, 0, 1, 2, 3, 4, 5);
        Check.fill(x, 1, 9, 9, 9);
        due("copy", x.copy(0, 1, 2, 1, 2), 1);
        due("left", x.element(1, 0), 9);
        due("came", x.element(1, 1), 3);
        due("came", x.element(1, 2), 4);
        due("copy in one row", x.copy(0, 0, 0, 1, 4), 1);
        for (int i = 1; i < 5; i++) {
            due("as they were ahead", x.element(0, i), i);
        }
        due("copy back in one row", x.copy(0, 0, 1, 0, 4), 1);
        for (int i = 0; i < 4; i++) {
            due("as they were ahead", x.element(0, i), i + 1);
        }
        due("copy none at the end", x.copy(0, 1, 5, 3, 0), 1);
        due("copy none beyond i", x.copy(0, 1, 6, 3, 0), -5);
        due("copy none beyond j", x.copy(0, 1, 5, 4, 0), -5);
        due("copy i -1", x.copy(0, 1, -1, 0, 1), -5);
        due("copy j -1", x.copy(0, 1, 0, -1, 1), -5);
        due("copy beyond p", x.copy(0, 1, 3, 0, 3), -5);
        due("copy beyond q", x.copy(0, 1, 0, 1, 3), -5);
        due("copy with great n", x.copy(0, 1, 1, 1, Integer.MAX_VALUE), -5);
        due("copy with great i", x.copy(0, 1, Integer.MAX_VALUE, 1, 1), -5);
        due("copy n -1", x.copy(0, 1, -1, 0, -1), -4);
        due("copy from nothing", x.copy(2, 1, 0, 0, -1), -3);
        due("copy to nothing", x.copy(1, 2, 0, 0, -1), -3);
        x.row(2, 3, 3);
        due("copy of two sorts", x.copy(0, 2, 0, 0, -1), -2);
        due("copy from shelf 8", x.copy(8, 2, 0, 0, -1), -1);
        due("copy to shelf -1", x.copy(0, -1, 0, 0, -1), -1);
        AsTheLastHeMet y = Check.told("gait 0 s;walker 0 0 0 0 0");
        y.show(0, 0);
        due("copy from a walker", y.copy(0, 1, 0, 0, -1), -2);
        due("copy to a walker", y.copy(1, 0, 0, 0, -1), -2);
    }

    private static void promise5Element() {
        AsTheLastHeMet x = Check.told("gait 0 s;walker 0 0 0 0 0");
        Check.fill(x, 0, 7, 8);
        due("element", x.element(0, 1), 8);
        due("element 2", x.element(0, 2), 0);
        due("element -1", x.element(0, -1), 0);
        due("element of nothing", x.element(1, 0), 0);
        due("element of shelf 8", x.element(8, 0), 0);
        due("element of shelf -1", x.element(-1, 0), 0);
        x.show(0, 0);
        due("element of a walker", x.element(0, 1), 0);
        for (int refusal = 11; refusal <= 17; refusal++) {
            due("nothing is refused", x.status(refusal), 0);
        }
    }

    private static void promises6And7ShowHolds() {
        AsTheLastHeMet x = Check.told("gait 0 s;walker 0 0 0 0 0;walker 0 1 0 0 0");
        due("show", x.show(0, 1), 1);
        due("holds a walker", x.holds(0), 1);
        due("show NONE", x.show(0, -1), 0);
        due("holds nothing", x.holds(0), -1);
        due("show 2", x.show(0, 2), -1);
        due("show -2", x.show(0, -2), -1);
        due("show in shelf 8", x.show(8, 0), -1);
        due("show NONE in shelf -1", x.show(-1, -1), -1);
        for (int sort = 0; sort < 4; sort++) {
            x.row(1, sort, 0);
            due("holds a row", x.holds(1), 100 + sort);
        }
        due("show over a row", x.show(1, 0), 1);
        due("holds him", x.holds(1), 0);
        due("show NONE over a row", x.show(7, -1), 0);
        due("holds no row", x.holds(7), -1);
        due("holds of shelf 8", x.holds(8), -1);
        due("holds of shelf -1", x.holds(-1), -1);
        due("only three refused", x.status(11), 4);
    }

    private static void promise8Says() {
        // At 8 a mirror, a taker and a walker, beside it at 9 a loud and at 1 a fickle one; at 13 and 14 nobody is beside.
        AsTheLastHeMet x = Check.told("gait 0 sf;gait 0 s;gait 1 sss;walker 4 8 0 0 0;walker 3 8 0 1 0;walker 0 8 0 0 0;"
                + "walker 5 9 0 0 0;walker 6 1 0 1 0;walker 2 14 0 2 0");
        for (int w = 0; w < 6; w++) {
            x.show(w, w);
        }
        due("mirror's gait", x.says(0, 0), 0);
        due("taker's gait", x.says(1, 0), 1);
        due("mirror's done", x.says(0, 3), 0);
        due("mirror's turned", x.says(0, 4), 0);
        due("loud's others with his gait", x.says(3, 1), 2);
        due("loud's besides", x.says(3, 5), 3);
        due("fickle's higher gaits", x.says(4, 6), 1);
        due("shy's besides", x.says(5, 2), 0);
        due("walker no shy", x.says(2, 2), -2);
        due("walker no keeper", x.says(2, 1), -2);
        due("mirror no fickle", x.says(0, 6), -2);
        due("mirror no keeper", x.says(0, 1), -2);
        due("taker no mirror", x.says(1, 4), -2);
        due("loud no taker", x.says(3, 3), -2);
        due("shy no loud", x.says(5, 5), -2);
        due("fickle no loud", x.says(4, 5), -2);
        due("says of kind 7", x.says(0, 7), -1);
        due("says of kind -1", x.says(6, -1), -1);
        due("says of shelf 8", x.says(8, 0), -1);
        due("says of nothing", x.says(6, 1), -3);
        due("says of a row", x.says(7, 1), -2);
        AsTheLastHeMet y = Check.told("gait 0 sss;walker 2 6 0 0 0;walker 0 6 0 0 0;walker 1 6 0 0 0;walker 5 7 0 0 0;"
                + "walker 6 5 0 0 0;beat 2");
        y.show(0, 0);
        y.show(3, 3);
        y.show(4, 4);
        due("two besides the shy one", y.says(0, 2), 2);
        due("place 7 is not beside 6", y.says(3, 5), 0);
        due("done behind two beats", y.says(4, 3), 2);
        y.goes();
        y.goes();
        y.show(1, 1);
        due("others with a gait", y.says(1, 0), 0);
        y.show(2, 2);
        due("keeper's others", y.says(2, 1), 2);
    }

    private static void promise9Gait() {
        AsTheLastHeMet x = new AsTheLastHeMet();
        Check.fill(x, 0, 0, 1, 2, 3, 0, 1, 2, 3, 4);
        due("gait", x.gait(0, 8, 2), 0);
        due("gait of one", x.gait(0, 1, 0), 1);
        due("gait of none", x.gait(0, 0, 0), -6);
        due("gait of nine", x.gait(0, 9, 0), -6);
        due("gait of ten", x.gait(0, 10, 3), -5);
        due("gait of -1", x.gait(0, -1, 3), -4);
        due("gait at a wall 3", x.gait(0, 2, 3), -6);
        due("gait at a wall -1", x.gait(0, 2, -1), -6);
        x.set(0, 1, 4);
        due("a step 4", x.gait(0, 2, 0), -6);
        x.set(0, 1, -1);
        due("a step -1", x.gait(0, 2, 0), -6);
        due("gait of nothing", x.gait(1, -1, 0), -3);
        due("gait of shelf 8", x.gait(8, -1, 0), -1);
        x.row(1, 3, 2);
        x.set(1, 0, 0x700000002L);
        due("a long counts by its lowest 32 bits", x.gait(1, 1, 1), 2);
        due("its step", x.gaitOf(2, 0), 2);
        for (int g = 3; g < 8; g++) {
            due("gait", x.gait(0, 1, 0), g);
        }
        due("a ninth gait", x.gait(0, 1, 0), -7);
        due("a wrong ninth gait", x.gait(0, 2, 0), -6);
        x.walker(0, 0, 0, 0, 0);
        x.show(0, 0);
        due("gait of a walker", x.gait(0, -1, 0), -2);
        due("no more gaits", x.status(0), 8);
    }

    private static void promise10GaitOf() {
        AsTheLastHeMet x = Check.told("gait 2 flrsr;gait 0 s");
        int[] steps = {0, 1, 2, 3, 2};
        for (int i = 0; i < 5; i++) {
            due("step", x.gaitOf(0, i), steps[i]);
        }
        due("steps", x.gaitOf(0, -1), 5);
        due("at a wall", x.gaitOf(0, -2), 2);
        due("steps of 1", x.gaitOf(1, -1), 1);
        due("step 1 of 1", x.gaitOf(1, 1), -15);
        due("step 5", x.gaitOf(0, 5), -15);
        due("what -3", x.gaitOf(0, -3), -15);
        due("gait 2", x.gaitOf(2, -1), -15);
        due("gait -1", x.gaitOf(-1, 0), -15);
        due("counted as -5", x.status(15), 5);
    }

    private static void promises11And12Walker() {
        AsTheLastHeMet x = Check.told("gait 0 s;gait 0 f;wall 7");
        due("walker", x.walker(6, 48, 3, 1, 9), 0);
        int[] how = {6, 48, 3, 1, 0, 0, 9};
        for (int what = 0; what < 7; what++) {
            due("walkerOf " + what, x.walkerOf(0, what), how[what]);
        }
        due("walkerOf 7", x.walkerOf(0, 7), -5);
        due("walkerOf -1", x.walkerOf(0, -1), -5);
        due("walkerOf of 1", x.walkerOf(1, 0), -5);
        due("walkerOf of -1", x.walkerOf(-1, 0), -5);
        due("kind 7", x.walker(7, 49, 0, 0, 0), -1);
        due("kind -1", x.walker(-1, 0, 0, 0, 0), -1);
        due("gait 2", x.walker(0, 49, 0, 2, 0), -1);
        due("gait -1", x.walker(0, 0, 0, -1, 0), -1);
        due("place 49", x.walker(0, 49, 0, 0, 0), -6);
        due("place -1", x.walker(0, -1, 0, 0, 0), -6);
        due("way 4", x.walker(0, 0, 4, 0, 0), -6);
        due("way -1", x.walker(0, 0, -1, 0, 0), -6);
        due("a 10", x.walker(0, 0, 0, 0, 10), -6);
        due("a -1", x.walker(0, 0, 0, 0, -1), -6);
        due("in a wall", x.walker(0, 7, 0, 0, 0), -6);
        for (int w = 1; w < 6; w++) {
            due("all at one place", x.walker(0, 48, 0, 0, 0), w);
        }
        due("a seventh", x.walker(0, 48, 0, 0, 0), -7);
        due("a seventh in a wall", x.walker(0, 7, 0, 0, 0), -6);
    }

    private static void promises13And14Wall() {
        AsTheLastHeMet x = Check.told("gait 0 s;walker 0 20 0 0 0");
        due("wall", x.wall(48, true), 1);
        due("wall again", x.wall(48, true), 0);
        due("isWall", x.isWall(48), 1);
        due("isWall 47", x.isWall(47), 0);
        due("wall 0", x.wall(0, true), 1);
        due("isWall 0", x.isWall(0), 1);
        due("two walls", x.status(2), 2);
        due("open", x.wall(48, false), 1);
        due("open again", x.wall(48, false), 0);
        due("isWall", x.isWall(48), 0);
        due("wall where he stands", x.wall(20, true), -6);
        due("open where he stands", x.wall(20, false), 0);
        due("isWall where he stands", x.isWall(20), 0);
        due("wall 49", x.wall(49, true), -6);
        due("open 49", x.wall(49, false), -6);
        due("wall -1", x.wall(-1, true), -6);
        due("isWall 49", x.isWall(49), -5);
        due("isWall -1", x.isWall(-1), -5);
        due("isWall 64", x.isWall(64), -5);
    }

    private static void promise15Streets() {
        AsTheLastHeMet x = new AsTheLastHeMet();
        due("streets of shelf 8", x.streets(8), -1);
        due("streets of nothing", x.streets(0), -3);
        Check.write(x, 0, 1, "gait 0 fs;wall 24;walker 0 16 01 00 09;beat 02;open 24");
        due("streets", x.streets(0), 5);
        due("fault", x.fault(), -1);
        walkerIs("told", x, 0, 17, 1, 0, 0, 0, 9);
        due("beats", x.status(3), 2);
        due("walls", x.status(2), 0);
        Check.write(x, 0, 3, "wall 1");
        x.set(0, 5, 0x100000000L + '2');
        due("streets of longs", x.streets(0), 1);
        due("wall 2", x.isWall(2), 1);
        x.show(0, 0);
        due("streets of a walker", x.streets(0), -2);
        due("which leaves the fault", x.fault(), -1);
        faultIs(x, "gait 0 f;wall 3;walker 0 3 0 0 0", 25);
        due("nothing is told: gaits", x.status(0), 1);
        due("nothing is told: walls", x.isWall(3), 0);
        faultIs(x, "open 2;walker 0 40 0 0 0;beat 5;beat 0", 37);
        due("nothing is told: beats", x.status(3), 2);
        due("nothing is told: walkers", x.status(1), 1);
        due("nothing is told: open", x.isWall(2), 1);
        walkerIs("nothing is told", x, 0, 17, 1, 0, 0, 0, 9);
        due("a refusal leaves the fault", x.streets(9), -1);
        due("the fault", x.fault(), 37);
        Check.write(x, 0, 2, "wall 2");
        due("wall again in a text", x.streets(0), 1);
        due("no fault now", x.fault(), -1);
        due("status -6", x.status(16), 2);
    }

    private static void promise15Told() {
        AsTheLastHeMet x = Check.told("gait 1 flrs;gait 2 fffffffl;walker 6 48 3 1 7;walker 5 0 2 0 0;walker 2 5 1 0 3");
        int[] first = {0, 1, 2, 3};
        for (int i = 0; i < 4; i++) {
            due("letters f, l, r, s", x.gaitOf(0, i), first[i]);
        }
        due("steps", x.gaitOf(1, -1), 8);
        due("at a wall 1", x.gaitOf(0, -2), 1);
        due("at a wall 2", x.gaitOf(1, -2), 2);
        int[] kinds = {6, 5, 2};
        for (int w = 0; w < 3; w++) {
            due("kind", x.walkerOf(w, 0), kinds[w]);
        }
        walkerIs("told", x, 0, 48, 3, 1, 0, 0, 7);
        Check.write(x, 0, 0, "wall 9;wall 9;open 9;open 9;wall 10");
        due("walls told twice", x.streets(0), 5);
        due("one stays", x.status(2), 1);
        AsTheLastHeMet met = Check.told("gait 0 s;walker 0 0 0 0 0;walker 0 0 0 0 0;beat 99");
        due("beats of a text are in truth", met.status(3), 99);
        due("and their meetings are counted", met.status(4), 99);
    }

    private static void promise16Fault() {
        AsTheLastHeMet x = Check.told("gait 0 f;walker 0 24 0 0 0;wall 10");
        faultIs(x, "", 0);
        faultIs(x, "g", 1);
        faultIs(x, "x", 0);
        faultIs(x, " wall 3", 0);
        faultIs(x, "wal", 3);
        faultIs(x, "wals 3", 3);
        faultIs(x, "walks", 4);
        faultIs(x, "wall", 4);
        faultIs(x, "wall3", 4);
        faultIs(x, "wall ", 5);
        faultIs(x, "wall  3", 5);
        faultIs(x, "wall x", 5);
        faultIs(x, "wall 3 ", 6);
        faultIs(x, "wall 3x", 6);
        faultIs(x, "wall 123", 7);
        faultIs(x, "wall 3;", 7);
        faultIs(x, "wall 3;;", 7);
        faultIs(x, "wall 3; open 3", 7);
        faultIs(x, "wall 3;opem", 10);
        faultIs(x, "gaiter", 4);
        faultIs(x, "gait 0", 6);
        faultIs(x, "gait 0f", 6);
        faultIs(x, "gait 0 ", 7);
        faultIs(x, "gait 0 x", 7);
        faultIs(x, "gait 0 ffx", 9);
        faultIs(x, "gait 0 ff fl", 9);
        faultIs(x, "gait 0 flrsflrsf", 15);
        faultIs(x, "gait 0 flrsflrsx", 15);
        faultIs(x, "gait 0 flrsflrs;", 16);
        faultIs(x, "walker 0 0 0 0", 14);
        faultIs(x, "walker 0 0 0 0;", 14);
        faultIs(x, "walker 0 0 0 0 ", 15);
        faultIs(x, "beat 100", 7);
        faultIs(x, "WALL 3", 0);
        Check.fill(x, 0, 'w', 'a', 'l', 'l', ' ', -1);
        due("a letter -1", x.streets(0), -6);
        due("its fault", x.fault(), 5);
        due("no text was told", x.status(2), 1);
    }

    private static void promise16Numbers() {
        AsTheLastHeMet x = Check.told("gait 0 f;walker 0 24 0 0 0;wall 10");
        faultIs(x, "gait 3 f", 5);
        faultIs(x, "gait 10 f", 5);
        faultIs(x, "wall 49", 5);
        faultIs(x, "wall 499", 5);
        faultIs(x, "open 49", 5);
        faultIs(x, "beat 0", 5);
        faultIs(x, "beat 00", 5);
        faultIs(x, "walker 7 0 0 0 0", 7);
        faultIs(x, "walker 06 49 0 0 0", 10);
        faultIs(x, "walker 6 48 4 0 0", 12);
        faultIs(x, "walker 6 48 3 1 0", 14);
        faultIs(x, "walker 6 48 3 0 10", 16);
        faultIs(x, "wall 5;walker 0 6 0 0 0;gait 0 f;walker 0 6 0 2 0", 46);
        Check.write(x, 7, 0, "wall 5;walker 0 6 0 0 0;gait 0 f;walker 0 6 0 01 09");
        due("a gait of the text", x.streets(7), 4);
    }

    private static void promise16Room() {
        AsTheLastHeMet x = new AsTheLastHeMet();
        Check.write(x, 7, 0, "gait 0 f;gait 0 f;gait 0 f;gait 0 f;gait 0 f;gait 0 f;gait 0 f;gait 0 f");
        due("eight gaits", x.streets(7), 8);
        faultIs(x, "wall 3;gait 0 f", 7);
        faultIs(x, "wall 3;gaitx", 7);
        faultIs(x, "wall 3;gait", 7);
        faultIs(x, "wall 3;gai", 10);
        faultIs(x, "wall 3;gaix", 10);
        Check.write(x, 7, 0, "walker 0 0 0 7 0;walker 0 0 0 0 0;walker 0 0 0 0 0;walker 0 0 0 0 0;walker 0 0 0 0 0");
        due("five walkers", x.streets(7), 5);
        faultIs(x, "walker 0 0 0 0 0;walker 9", 17);
        due("the sixth is not told", x.status(1), 5);
        x.walker(0, 0, 0, 0, 0);
        faultIs(x, "walker", 0);
        faultIs(x, "walke", 5);
        faultIs(x, "walkeR", 5);
        Check.write(x, 7, 0, "wall 3");
        due("a wall still has room", x.streets(7), 1);
    }

    private static void promise16AsThingsStand() {
        AsTheLastHeMet x = Check.told("gait 0 f;walker 0 24 1 0 0;wall 10");
        faultIs(x, "wall 24", 5);
        faultIs(x, "wall 24x", 5);
        faultIs(x, "walker 0 10 9 9 9", 9);
        faultIs(x, "wall 0;walker 0 00 0 0 0", 16);
        faultIs(x, "beat 1;wall 25", 12);
        Check.write(x, 7, 0, "beat 1;wall 24;open 10;walker 0 10 0 0 0");
        due("as things stand then", x.streets(7), 4);
        due("he is on", x.walkerOf(0, 1), 25);
    }

    /** Steps of beats: on, turns, standing, and turns at a wall, for all ways. */
    private static void steps() {
        int[] next = {17, 25, 31, 23};
        for (int way = 0; way < 4; way++) {
            AsTheLastHeMet x = Check.told("gait 0 f;gait 0 l;gait 0 r;gait 0 s;walker 0 24 " + way + " 0 0");
            willBe(x, 1, 0, next[way], way, 0, 0, 0);
            int[] turned = {way, (way + 3) % 4, (way + 1) % 4, way};
            for (int g = 1; g < 4; g++) {
                x.teach(0, g);
                willBe(x, 1, 0, 24, turned[g], g, 0, 0);
            }
        }
        int[] edges = {3, 27, 45, 21};
        int[] turns = {3, 1, 2};
        for (int way = 0; way < 4; way++) {
            for (int wall = 0; wall < 3; wall++) {
                AsTheLastHeMet x = Check.told("gait " + wall + " ffs;walker 0 " + edges[way] + " " + way + " 0 0");
                willBe(x, 1, 0, edges[way], (way + turns[wall]) % 4, 0, 1, 0);
                AsTheLastHeMet y = Check.told("wall " + next[way] + ";gait " + wall + " ff;walker 0 24 " + way + " 0 0");
                willBe(y, 1, 0, 24, (way + turns[wall]) % 4, 0, 1, 0);
            }
        }
        AsTheLastHeMet round = Check.told("gait 0 ffr;walker 0 0 1 0 0");
        willBe(round, 3, 0, 2, 2, 0, 0, 0);
        willBe(round, 12, 0, 0, 1, 0, 0, 0);
    }

    /** Two and three at one place: who takes what from whom. */
    private static void meetings() {
        // 0 comes from the left, 1 from the right: they meet at 3 and go on each as the other.
        AsTheLastHeMet two = Check.told("gait 0 fs;gait 1 fss;walker 0 2 1 0 0;walker 0 4 3 1 0");
        willBe(two, 1, 0, 3, 3, 1, 1, 0);
        willBe(two, 1, 1, 3, 1, 0, 1, 0);
        due("one meeting", two.meetings(1), 1);
        // Three at one place: each takes from the next, the last from the first, all at once.
        String ring = "gait 0 s;gait 0 ss;gait 0 sss;";
        AsTheLastHeMet three = Check.told(ring + "walker 0 9 0 0 0;walker 0 9 1 1 0;walker 0 9 2 2 0");
        willBe(three, 1, 0, 9, 1, 1, 1, 0);
        willBe(three, 1, 1, 9, 2, 2, 1, 0);
        willBe(three, 1, 2, 9, 0, 0, 0, 0);
        due("one meeting of three", three.meetings(1), 1);
        // Others between them by number are elsewhere: the next there is meant.
        AsTheLastHeMet gap = Check.told(ring + "walker 0 9 0 0 0;walker 0 20 1 1 0;walker 0 9 2 2 0;walker 0 20 3 2 0");
        willBe(gap, 1, 0, 9, 2, 2, 1, 0);
        willBe(gap, 1, 1, 20, 3, 2, 1, 0);
        willBe(gap, 1, 3, 20, 1, 1, 1, 0);
        due("two places", gap.meetings(1), 2);
        // kind, then whether he takes from a walker and gives to one
        int[][] kinds = {{0, 1, 1}, {1, 0, 1}, {2, 0, 0}, {3, 1, 0}, {4, 1, 0}, {5, 0, 1}, {6, 1, 0}};
        for (int[] kind : kinds) {
            AsTheLastHeMet x = Check.told("gait 0 s;gait 0 s;walker " + kind[0] + " 9 0 0 0;walker 0 9 1 1 0");
            due(kind[0] + " takes", x.at(1, 0, 2), kind[1]);
            due(kind[0] + " takes the way", x.at(1, 0, 1), kind[1]);
            due(kind[0] + " gives", x.at(1, 1, 2), 1 - kind[2]);
        }
        // Who doesn't take there (a shy one is next) still meets; the one before him may take from a keeper.
        AsTheLastHeMet mixed = Check.told(ring + "walker 0 9 0 0 0;walker 2 9 0 1 0;walker 0 9 0 2 0");
        willBe(mixed, 1, 0, 9, 0, 0, 0, 0);
        willBe(mixed, 1, 1, 9, 0, 1, 1, 0);
        willBe(mixed, 1, 2, 9, 0, 0, 0, 0);
    }

    private static void mirrorsAndFickles() {
        AsTheLastHeMet mirror = Check.told("gait 0 lr;gait 0 sf;walker 4 0 0 1 0;walker 1 0 0 0 0");
        willBe(mirror, 1, 0, 0, 3, 0, 1, 1);
        // The keeper turns right, back to 0; the mirror, turned, left: to 2; but he takes the keeper's way again.
        willBe(mirror, 2, 0, 0, 0, 0, 0, 1);
        AsTheLastHeMet alone = Check.told("gait 0 ls;gait 1 sf;walker 4 0 0 1 0;walker 1 0 0 0 0;beat 1;wall 1");
        alone.goes();
        walkerIs("turned", alone, 0, 0, 3, 0, 1, 1);
        willBe(alone, 2, 0, 0, 0, 0, 1, 1);
        alone.teach(0, 1);
        walkerIs("taught, still turned", alone, 0, 0, 3, 1, 0, 1);
        // At a wall the turn to the right is one to the left for him: from 3 to 2.
        willBe(alone, 2, 0, 0, 2, 1, 0, 1);
        AsTheLastHeMet fickle = Check.told("gait 0 s;gait 0 s;gait 0 s;walker 6 5 0 1 0;walker 1 5 2 0 0");
        due("fickle takes no lower gait", fickle.at(1, 0, 2), 1);
        due("nor its way", fickle.at(1, 0, 1), 0);
        fickle.teach(1, 1);
        due("fickle doesn't take his own gait", fickle.at(1, 0, 1), 0);
        fickle.teach(1, 2);
        due("fickle takes a higher gait", fickle.at(1, 0, 2), 2);
        due("and its way", fickle.at(1, 0, 1), 2);
    }

    private static void loud() {
        // Beside 24, up, right, down and left, and one farther off.
        AsTheLastHeMet x = Check.told("gait 0 s;gait 1 ss;walker 5 24 2 1 0;walker 0 17 1 0 0;walker 3 25 3 0 0;"
                + "walker 4 31 0 0 0;walker 6 23 1 0 0;walker 0 26 0 0 0");
        willBe(x, 1, 1, 17, 1, 1, 1, 0);
        willBe(x, 1, 2, 25, 3, 1, 1, 0);
        willBe(x, 1, 3, 31, 0, 1, 1, 1);
        willBe(x, 1, 4, 23, 1, 1, 1, 0);
        willBe(x, 1, 5, 26, 0, 0, 0, 0);
        willBe(x, 1, 0, 24, 2, 1, 1, 0);
        due("nobody meets", x.meetings(5), 0);
        // Keepers, shy and loud ones don't hear him, a fickle one no lower gait, one who meets nobody else but those.
        AsTheLastHeMet deaf = Check.told("gait 0 s;gait 0 s;walker 5 24 0 0 0;walker 1 17 0 1 0;walker 2 25 0 1 0;"
                + "walker 6 31 0 1 0;walker 0 23 0 1 0;walker 2 23 0 1 0");
        for (int w = 1; w < 6; w++) {
            due("deaf " + w, deaf.at(1, w, 2), 1);
        }
        // Of two loud ones the first; for a fickle one the first of a higher gait.
        AsTheLastHeMet of = Check.told("gait 0 s;gait 0 s;gait 0 s;walker 5 25 0 0 0;walker 5 23 0 2 0;walker 0 24 0 1 0");
        due("the first loud one", of.at(1, 2, 2), 0);
        AsTheLastHeMet from = Check.told("gait 0 s;gait 0 s;gait 0 s;walker 5 25 0 0 0;walker 5 23 0 2 0;walker 6 24 0 1 0");
        due("the first from whom he would", from.at(1, 2, 2), 2);
        // Place 7 is not beside 6; a loud one who meets somebody is heard too, and gives him his gait.
        AsTheLastHeMet met = Check.told("gait 0 s;gait 0 s;walker 5 6 0 0 0;walker 0 6 0 1 0;walker 0 7 0 1 0;"
                + "walker 0 5 0 1 0;walker 0 13 0 1 0");
        due("met him", met.at(1, 1, 2), 0);
        due("not beside", met.at(1, 2, 2), 1);
        due("beside on the left", met.at(1, 3, 2), 0);
        due("beside below", met.at(1, 4, 2), 0);
        due("loud keeps his", met.have(400, 0), 27);
    }

    private static void promise17At() {
        AsTheLastHeMet x = Check.told("gait 0 fffffff;walker 0 42 0 0 0");
        willBe(x, 0, 0, 42, 0, 0, 0, 0);
        willBe(x, 6, 0, 0, 0, 0, 6, 0);
        willBe(x, 7, 0, 0, 3, 0, 0, 0);
        due("walker 1", x.at(401, 1, 5), -1);
        due("walker -1", x.at(0, -1, 0), -1);
        due("what 5", x.at(401, 0, 5), -5);
        due("what -1", x.at(0, 0, -1), -5);
        due("401", x.at(401, 0, 0), -6);
        due("-1", x.at(-1, 0, 0), -6);
        // From there on he goes round along the edge: four times six steps and a turn.
        willBe(x, 399, 0, 0, 3, 0, 0, 0);
        willBe(x, 400, 0, 0, 2, 0, 1, 0);
        walkerIs("nothing is changed", x, 0, 42, 0, 0, 0, 0, 0);
        due("no beats", x.status(3), 0);
    }

    private static void promises18To21Gaits() {
        // 0 with gait 1 waits at 3; the keeper with gait 0 comes from 0 and is there in 3 beats.
        AsTheLastHeMet x = Check.told("gait 0 f;gait 0 s;gait 0 s;walker 1 0 1 0 0;walker 0 3 1 1 0;walker 2 40 0 1 0");
        due("have 1 now", x.have(0, 1), 6);
        due("have 1 in 2", x.have(2, 1), 6);
        due("have 1 in 3", x.have(3, 1), 4);
        due("have 0 in 3", x.have(3, 0), 3);
        due("have 2", x.have(400, 2), 0);
        due("have 3", x.have(401, 3), -1);
        due("have 401", x.have(401, 2), -6);
        due("have -1", x.have(-1, 2), -6);
        due("survives now", x.survives(0), 3);
        due("survives 400", x.survives(400), 3);
        due("survives 401", x.survives(401), -6);
        due("survives -1", x.survives(-1), -6);
        due("lost 1", x.lost(1), -1);
        due("lost 2", x.lost(2), 0);
        due("lost 3", x.lost(3), -11);
        due("lost -1", x.lost(-1), -11);
        due("comes", x.comes(0, 1), 3);
        due("comes now", x.comes(1, 2), 0);
        due("comes never", x.comes(0, 2), -1);
        due("comes gait 3", x.comes(3, 0), -11);
        due("comes walker 3", x.comes(0, 3), -11);
        due("counted as -1", x.status(11), 5);
        x.goes();
        due("lost 1 in 3", x.lost(1), 3);
        due("survives 2", x.survives(2), 3);
        due("survives 3", x.survives(3), 1);
    }

    private static void promises22And23Meet() {
        AsTheLastHeMet x = Check.told("gait 0 f;gait 0 s;walker 1 0 1 0 0;walker 1 3 1 1 0;walker 1 3 1 1 0");
        due("meet", x.meet(0, 1), 3);
        due("meet the other way about", x.meet(1, 0), 3);
        due("meet from beat 1 on", x.meet(1, 2), 1);
        due("meet himself", x.meet(1, 1), -16);
        due("meet walker 3", x.meet(3, 3), -11);
        due("meet walker -1", x.meet(0, -1), -11);
        due("counted as -6", x.status(16), 1);
        due("counted as -1", x.status(11), 2);
        due("meetings now", x.meetings(0), 0);
        due("meetings 1", x.meetings(1), 1);
        due("meetings 400", x.meetings(400), 400);
        due("meetings 401", x.meetings(401), -6);
        due("meetings -1", x.meetings(-1), -6);
        due("nothing is counted", x.status(4), 0);
        AsTheLastHeMet apart = Check.told("gait 0 s;walker 0 0 0 0 0;walker 0 1 0 0 0");
        due("meet never", apart.meet(0, 1), -1);
        due("crossing is no meeting",
                Check.told("gait 0 f;walker 1 0 1 0 0;walker 1 1 3 0 0").at(1, 0, 0), 1);
        due("no meeting", Check.told("gait 0 f;walker 1 0 1 0 0;walker 1 1 3 0 0").meetings(1), 0);
    }

    private static void promise24Ring() {
        // Along the edge, six steps and a turn on each side, and as many steps has the gait.
        AsTheLastHeMet x = Check.told("gait 0 fffffff;walker 0 42 1 0 0");
        due("ring at once", x.ring(0), 0);
        due("ring of 28", x.ring(1), 28);
        AsTheLastHeMet up = Check.told("gait 0 fffffff;walker 0 42 0 0 0");
        due("ring behind the way to it", up.ring(0), 7);
        due("ring of 28", up.ring(1), 28);
        due("what 2", x.ring(2), -5);
        due("what -1", x.ring(-1), -5);
        AsTheLastHeMet later = Check.told("gait 2 f;walker 0 3 0 0 0;gait 0 sss;walker 1 0 0 1 0");
        due("ring with DONE", later.ring(1), 42);
        AsTheLastHeMet tail = Check.told("gait 0 f;gait 0 s;walker 0 0 1 1 0;walker 1 4 3 0 0");
        // The keeper is at 0 behind 4 beats; then both go alike, round along the edge.
        due("ring begins", tail.ring(0), 4);
        due("ring of 28", tail.ring(1), 28);
        AsTheLastHeMet none = new AsTheLastHeMet();
        due("nobody", none.ring(0), 0);
        due("nobody", none.ring(1), 1);
        // Rings of 7, 8, 5 and 3 beats come round in 840.
        AsTheLastHeMet lengthy = Check.told("gait 0 sssssss;gait 0 ssssssss;gait 0 sssss;gait 0 sss;walker 1 0 0 0 0;"
                + "walker 1 1 0 1 0;walker 1 2 0 2 0");
        due("ring of 280", lengthy.ring(1), 280);
        lengthy.walker(1, 3, 0, 3, 0);
        due("no ring to 400", lengthy.ring(0), -6);
        due("no ring to 400", lengthy.ring(1), -6);
    }

    private static void promise25Alone() {
        AsTheLastHeMet x = Check.told("gait 0 f;gait 0 s;walker 0 0 1 0 0;walker 1 3 2 1 0;wall 6");
        willBe(x, 3, 0, 3, 2, 1, 0, 0);
        due("alone place", x.alone(3, 0, 0), 3);
        due("alone way", x.alone(3, 0, 1), 1);
        due("alone gait", x.alone(3, 0, 2), 0);
        due("alone place at the wall", x.alone(6, 0, 0), 5);
        due("alone way at the wall", x.alone(6, 0, 1), 0);
        due("the second alone", x.alone(400, 1, 2), 1);
        due("the second alone", x.alone(400, 1, 0), 3);
        due("alone now", x.alone(0, 1, 1), 2);
        due("alone turned", x.alone(5, 1, 4), 0);
        due("alone walker 2", x.alone(401, 2, 5), -1);
        due("alone what 5", x.alone(401, 0, 5), -5);
        due("alone what -1", x.alone(1, 0, -1), -5);
        due("alone 401", x.alone(401, 0, 0), -6);
        due("alone -1", x.alone(-1, 0, 0), -6);
    }

    private static void promise26Alike() {
        due("nobody", new AsTheLastHeMet().alike(), 0);
        AsTheLastHeMet x = Check.told("gait 0 f;gait 0 s;walker 1 0 1 0 0");
        due("one", x.alike(), 0);
        x.walker(0, 3, 1, 1, 0);
        due("two", x.alike(), 3);
        x.walker(0, 2, 1, 1, 0);
        due("three", x.alike(), 3);
        x.walker(2, 40, 1, 1, 0);
        due("never", x.alike(), -1);
    }

    /** A keeper and a walker who first meet in the last beat that counts, or in the next one. */
    private static void lastBeats() {
        AsTheLastHeMet last = Check.told("gait 2 rrfsfsff;gait 0 ffflrfs;wall 18;walker 1 2 0 0 0;walker 0 12 0 1 0");
        due("meet in 400", last.meet(0, 1), 400);
        due("lost in 400", last.lost(1), 400);
        due("comes in 400", last.comes(0, 1), 400);
        due("alike in 400", last.alike(), 400);
        due("survives 399", last.survives(399), 3);
        due("survives 400", last.survives(400), 1);
        due("have in 399", last.have(399, 1), 2);
        due("have in 400", last.have(400, 1), 0);
        AsTheLastHeMet late = Check.told("gait 0 s;gait 2 flllsfss;wall 14;wall 25;wall 39;wall 32;wall 48;wall 19;"
                + "walker 1 26 1 0 0;walker 0 4 3 1 0");
        due("not in 400", late.meet(0, 1), -1);
        due("not lost in 400", late.lost(1), -1);
        due("doesn't come in 400", late.comes(0, 1), -1);
        due("not alike in 400", late.alike(), -1);
        late.beat(1);
        due("a beat later: meet", late.meet(0, 1), 400);
        AsTheLastHeMet ring = Check.told("gait 2 ffffl;gait 1 sf;wall 18;wall 14;wall 47;wall 37;wall 1;"
                + "walker 1 17 3 0 0;walker 0 28 3 1 0");
        due("ring to 400", ring.ring(0), 120);
        due("ring to 400", ring.ring(1), 280);
        AsTheLastHeMet lateRing = Check.told("gait 0 srsfslsf;gait 1 rfsfl;walker 1 33 1 0 0;walker 0 43 3 1 0");
        due("ring to 401", lateRing.ring(0), -6);
        lateRing.beat(1);
        due("a beat later: ring", lateRing.ring(0), 288);
        due("a beat later: ring", lateRing.ring(1), 112);
        AsTheLastHeMet hire = Check.told("gait 2 frsssrsl;gait 2 ssrf;walker 0 47 2 1 0;walker 0 24 3 1 0");
        int[] walls = {38, 32, 8, 30, 6, 20, 36, 39, 0, 22, 28, 34, 3, 18, 10};
        for (int place : walls) {
            hire.wall(place, true);
        }
        due("hire in 100 beats", hire.hire(0, 1), 100);
        due("hire in 100 beats", hire.hire(0, 0), 124);
        AsTheLastHeMet lateHire = Check.told("gait 1 slsf;gait 0 lsrffr;walker 0 14 0 1 0;walker 3 35 1 1 0");
        due("hire in 101 beats", lateHire.hire(0, 1), -1);
        due("hire in 101 beats", lateHire.hire(0, 0), -1);
    }

    private static void promise27Hire() {
        AsTheLastHeMet x = Check.told("gait 0 f;gait 0 s;gait 0 l;walker 0 24 0 1 0");
        // From 3 downwards in 3 beats, from 10 in 2, from 17 in 1: 17 is the first place a beat off, way 2.
        due("hire", x.hire(0, 0), 4 * 17 + 2);
        due("hire's beat", x.hire(0, 1), 1);
        due("hire for what all have", x.hire(1, 0), 0);
        due("hire for what all have: now", x.hire(1, 1), 0);
        due("hire for a gait that stays", x.hire(2, 0), -1);
        due("hire for a gait that stays", x.hire(2, 1), -1);
        x.wall(17, true);
        due("hire from the left", x.hire(0, 0), 4 * 23 + 1);
        x.walker(2, 23, 0, 0, 0);
        due("hire from the right", x.hire(0, 0), 4 * 25 + 3);
        x.wall(25, true);
        x.wall(31, true);
        due("hire past the shy one", x.hire(0, 0), 4 * 22 + 1);
        due("hire past the shy one: 2 beats", x.hire(0, 1), 2);
        x.teach(1, 2);
        due("a shy one with another gait", x.hire(0, 0), -1);
        due("gait 3", x.hire(3, 2), -11);
        due("gait -1", x.hire(-1, 0), -11);
        due("what 2", x.hire(0, 2), -15);
        due("what -1", x.hire(0, -1), -15);
        AsTheLastHeMet alone = Check.told("gait 0 f;wall 0;wall 1");
        due("nobody is there", alone.hire(0, 0), 8);
        due("nobody is there: now", alone.hire(0, 1), 0);
        AsTheLastHeMet full = Check.told("gait 0 s;walker 0 0 0 0 0;walker 0 0 0 0 0;walker 0 0 0 0 0;walker 0 0 0 0 0;"
                + "walker 0 0 0 0 0");
        due("five are there", full.hire(0, 0), 4);
        full.walker(0, 0, 0, 0, 0);
        due("six are there", full.hire(0, 0), -17);
        due("six, what 2", full.hire(0, 2), -15);
        due("counted as -7", full.status(17), 1);
        due("counted as -5", full.status(15), 1);
        due("nothing is changed", full.status(1), 6);
        hireAtLast();
    }

    /** Hires in a lane where but few places are free. */
    private static void hireAtLast() {
        // He sits at 6; all others are walls at first, but 0: none may come to him.
        AsTheLastHeMet x = Check.told("gait 2 f;gait 0 s;walker 0 6 0 1 0");
        for (int place = 7; place < 49; place++) {
            x.wall(place, true);
        }
        for (int place = 1; place < 6; place++) {
            x.wall(place, true);
        }
        due("nowhere to come from", x.hire(0, 0), -1);
        for (int place = 1; place < 6; place++) {
            x.wall(place, false);
        }
        due("from 5", x.hire(0, 0), 21);
        for (int w = 1; w < 5; w++) {
            x.walker(2, 6 - w, 0, 0, 0);
        }
        // 0 and 1 stay free: with way 1 from 1 in 5 beats.
        due("from 1", x.hire(0, 0), 5);
        due("from 1: 5 beats", x.hire(0, 1), 5);
        // Slowly: one step in 8 beats, and the last of these: 5 steps of 8 beats; from 1: the fifth in beat 40.
        Check.fill(x, 0, 3, 3, 3, 3, 3, 3, 3, 0);
        x.gait(0, 8, 2);
        for (int w = 1; w < 5; w++) {
            x.teach(w, 2);
        }
        due("slowly from 1", x.hire(2, 0), 5);
        due("slowly from 1: 40 beats", x.hire(2, 1), 40);
    }

    private static void promise28Fit() {
        AsTheLastHeMet x = Check.told("gait 0 f;gait 0 s;walker 1 0 1 0 0;walker 1 3 0 1 0");
        Check.fill(x, 0, 0, 0, 0, 2, 2, 0, 2, 2, 1, 400, 3, 1, 3, 3, 0, 3, 3, 0, 1, 0, 0);
        due("fit none", x.fit(0, 0), 0);
        due("fit now", x.fit(0, 1), 1);
        due("fit 2", x.fit(0, 2), 2);
        due("fit another gait", x.fit(0, 3), 2);
        due("fit 400", x.fit(0, 4), 3);
        due("fit two at one place", x.fit(0, 5), 4);
        due("fit twice told", x.fit(0, 6), 5);
        due("fit too late", x.fit(0, 7), 5);
        due("fewer elements", x.fit(0, 8), -5);
        due("far fewer elements", x.fit(0, Integer.MAX_VALUE), -5);
        due("-1", x.fit(0, -1), -4);
        due("shelf 8", x.fit(8, -1), -1);
        due("nothing", x.fit(1, -1), -3);
        x.show(1, 0);
        due("a walker", x.fit(1, -1), -2);
        int[][] wrong = {{401, 0, 0}, {-1, 0, 0}, {0, 49, 0}, {0, -1, 0}, {0, 0, 2}, {0, 0, -1}};
        for (int[] three : wrong) {
            Check.fill(x, 0, three);
            due("wrong", x.fit(0, 1), -6);
            due("not looked at", x.fit(0, 0), 0);
            due("began by wrong", x.began(0, 1, 0), -6);
        }
        x.row(0, 2, 33);
        due("ten sights", x.fit(0, 10), 10);
        due("eleven", x.fit(0, 11), -6);
        x.row(0, 3, 3);
        x.set(0, 0, 0x500000000L);
        due("longs by their lowest bits", x.fit(0, 1), 1);
        due("no gait at all", emptyFit(), -6);
    }

    private static int emptyFit() {
        AsTheLastHeMet x = new AsTheLastHeMet();
        Check.fill(x, 0, 0, 0, 0);
        return x.fit(0, 1);
    }

    private static void promise29Began() {
        AsTheLastHeMet x = Check.told("gait 0 f;gait 0 sf;gait 0 ssf;walker 1 0 1 0 0");
        Check.fill(x, 0, 2, 1, 1, 2, 2, 0, 3, 3, 2);
        due("began by nothing", x.began(0, 0, 0), 7);
        due("began with gait 1", x.began(0, 1, 0), 2);
        due("began with both: none", x.began(0, 2, 0), 0);
        Check.fill(x, 0, 2, 2, 0);
        due("began with gait 0", x.began(0, 1, 0), 1);
        // DONE 2 of gait 2 is 0 of gait 1 and of gait 0: behind a beat he is at 1 with 0 or 2, still at 0 with 1.
        x.teach(0, 2);
        x.beat(2);
        due("done is 2", x.walkerOf(0, 4), 2);
        Check.fill(x, 0, 1, 1, 2);
        due("began with 2, done 2", x.began(0, 1, 0), 4);
        Check.fill(x, 0, 1, 0, 1);
        due("began with 1, done 2 modulo 2", x.began(0, 1, 0), 2);
        Check.fill(x, 0, 1, 1, 1);
        due("not on at once", x.began(0, 1, 0), 0);
        walkerIs("nothing is changed", x, 0, 0, 1, 2, 2, 0, 0);
        due("walker 1", x.began(0, -1, 1), -1);
        due("walker 1 before nothing", x.began(1, -1, 1), -1);
        due("shelf 8", x.began(8, -1, 0), -1);
        due("nothing", x.began(1, -1, 0), -3);
        due("-1", x.began(0, -1, 0), -4);
        due("fewer elements", x.began(0, 2, 0), -5);
        x.row(0, 0, 33);
        due("eleven", x.began(0, 11, 0), -6);
        x.show(0, 0);
        due("a walker", x.began(0, -1, 0), -2);
    }

    private static void promise30Thief() {
        AsTheLastHeMet x = Check.told("gait 0 f;gait 0 s;gait 0 l;walker 0 0 1 0 0;walker 0 5 0 1 0;walker 0 9 0 1 0");
        due("thief now", x.thief(1, 0), 5);
        due("thief of 0", x.thief(0, 4), 4);
        // Behind 5 beats 0 and 1 are at 5 and go as the other: 1's body goes on to 6.
        due("thief's body goes on", x.thief(1, 6), 6);
        due("the other's body stays", x.thief(0, 6), 5);
        due("gait 3", x.thief(3, 401), -1);
        due("gait -1", x.thief(-1, 0), -1);
        due("nobody has it", x.thief(2, 401), -5);
        due("401", x.thief(1, 401), -6);
        due("-1", x.thief(1, -1), -6);
    }

    private static void promise31Beat() {
        AsTheLastHeMet x = Check.told("gait 0 f;gait 0 s;walker 1 0 1 0 0;walker 1 3 1 1 0;walker 1 3 1 1 0");
        due("beat 2", x.beat(2), 2);
        walkerIs("behind 2", x, 0, 2, 1, 0, 0, 0);
        due("beat 1", x.beat(1), 1);
        due("beat 99", x.beat(99), 99 + x.meetings(0));
        due("beats", x.status(3), 102);
        due("met", x.status(4), 102);
        due("beat 0", x.beat(0), -6);
        due("beat 100", x.beat(100), -6);
        due("beat -1", x.beat(-1), -6);
        due("beats", x.status(3), 102);
    }

    private static int drawn(int[] seed, int below) {
        seed[0] = (int) (seed[0] * 1103515245L + 12345L);
        return (int) (((seed[0] & 0xffffffffL) / 65536) % below);
    }

    private static void promise32Strangers() {
        AsTheLastHeMet x = new AsTheLastHeMet();
        due("no gait", x.strangers(7), -5);
        Check.write(x, 0, 0, "gait 0 s;gait 0 f;gait 0 l");
        x.streets(0);
        due("0 come", x.strangers(0), -6);
        due("7 come", x.strangers(7), -6);
        due("-1 come", x.strangers(-1), -6);
        due("no draw", x.status(5), 1);
        int[] seed = {1};
        due("2 come", x.strangers(2), 2);
        for (int w = 0; w < 2; w++) {
            int place = drawn(seed, 49);
            int way = drawn(seed, 4);
            int gait = drawn(seed, 3);
            walkerIs("stranger", x, w, place, way, gait, 0, 0, 0);
            due("a walker", x.walkerOf(w, 0), 0);
        }
        due("seed", x.status(5), seed[0]);
        due("6 come: 4", x.strangers(6), 4);
        int full = x.status(5);
        due("6 are there", x.strangers(1), 0);
        due("no draw for him", x.status(5), full);
        strangersToFewPlaces();
    }

    private static void strangersToFewPlaces() {
        AsTheLastHeMet x = Check.told("gait 0 s;walker 0 20 0 0 0");
        for (int place = 0; place < 49; place++) {
            if (place != 20) {
                x.wall(place, true);
            }
        }
        int[] seed = {-77};
        x.seed(-77);
        due("no place for 2", x.strangers(2), 0);
        for (int i = 0; i < 200; i++) {
            drawn(seed, 49);
        }
        due("100 draws each", x.status(5), seed[0]);
        x.wall(30, false);
        x.seed(5);
        seed[0] = 5;
        int draws = 0;
        boolean comes = false;
        while (draws < 100 && !comes) {
            comes = drawn(seed, 49) == 30;
            draws++;
        }
        Check.holds("a draw for 30 comes in time", comes);
        due("one comes", x.strangers(1), 1);
        due("to 30", x.walkerOf(1, 1), 30);
        due("his way", x.walkerOf(1, 2), drawn(seed, 4));
        drawn(seed, 1);
        due("seed", x.status(5), seed[0]);
    }

    private static void promise33Goes() {
        AsTheLastHeMet x = Check.told("gait 0 s;walker 0 0 0 0 0;walker 1 1 0 0 0");
        x.show(0, 1);
        x.show(1, 0);
        x.show(2, 1);
        due("goes", x.goes(), 1);
        due("his shelf", x.holds(0), -1);
        due("the other's", x.holds(1), 0);
        due("his second shelf", x.holds(2), -1);
        due("a row stays", x.holds(7), 100);
        due("walkerOf", x.walkerOf(1, 0), -5);
        due("his place is free", x.wall(1, true), 1);
        due("goes", x.goes(), 0);
        due("nobody", x.goes(), -6);
        x.walker(3, 4, 2, 0, 5);
        walkerIs("anew", x, 0, 4, 2, 0, 0, 0, 5);
    }

    private static void promise34Teach() {
        AsTheLastHeMet x = Check.told("gait 0 ss;gait 0 ss;walker 1 0 1 1 0;beat 1");
        due("teach", x.teach(0, 0), 1);
        walkerIs("taught", x, 0, 0, 1, 0, 0, 0, 0);
        x.beat(1);
        due("teach the same", x.teach(0, 0), 0);
        due("done", x.walkerOf(0, 4), 0);
        due("walker 1", x.teach(1, 0), -1);
        due("walker -1", x.teach(-1, 0), -1);
        due("gait 2", x.teach(0, 2), -1);
        due("gait -1", x.teach(0, -1), -1);
    }

    private static void promise35Seed() {
        AsTheLastHeMet x = new AsTheLastHeMet();
        due("seed", x.seed(Integer.MIN_VALUE), 1);
        due("status", x.status(5), Integer.MIN_VALUE);
        due("seed", x.seed(-1), Integer.MIN_VALUE);
        due("seed", x.seed(0), -1);
    }

    private static void acted(AsTheLastHeMet x, int walker, int act, int v, int answer, int... bodies) {
        String call = "act(" + walker + ", " + act + ", " + v + ")";
        due(call, x.act(walker, act, v), answer);
        due(call + ": how many bodies", x.status(6), bodies.length);
        for (int i = 0; i < bodies.length; i++) {
            due(call + ": trace " + i, x.trace(i), bodies[i]);
        }
        due(call + ": trace ends", x.trace(bodies.length), -1);
    }

    private static void promises36And37Act() {
        // Six of the kinds, each with k 2; his number is m.
        AsTheLastHeMet x = Check.told("gait 0 s;walker 0 0 0 0 2;walker 1 0 0 0 2;walker 2 0 0 0 2;walker 3 0 0 0 2;"
                + "walker 4 0 0 0 2;walker 5 0 0 0 2");
        acted(x, 0, 0, 7, 7, 10);
        acted(x, 0, 1, 7, 14, 11, 10);
        acted(x, 0, 2, 7, 14 ^ 5, 12, 11, 10, 10);
        acted(x, 1, 0, 7, 10, 20, 10);
        acted(x, 1, 1, 7, 20, 11, 20, 10);
        acted(x, 1, 2, 7, 20 ^ 8, 12, 11, 20, 10, 20, 10);
        acted(x, 2, 0, 7, 9, 10);
        acted(x, 2, 1, 7, 54, 30, 11, 10);
        acted(x, 2, 2, 7, 54 ^ 7, 12, 30, 11, 10, 10);
        acted(x, 3, 1, 7, 22, 40, 11, 10);
        acted(x, 3, 2, 7, 22 ^ 8, 12, 40, 11, 10, 10);
        acted(x, 4, 0, 7, 7, 51, 10);
        acted(x, 4, 1, 7, 16, 40, 11, 51, 10);
        acted(x, 4, 2, 7, -(16 ^ 5), 50, 12, 40, 11, 51, 10, 51, 10);
        acted(x, 5, 0, 7, 14, 20, 10);
        acted(x, 5, 1, 7, 28, 11, 20, 10);
        acted(x, 5, 2, 7, 28 ^ 12 ^ 5, 60, 12, 11, 20, 10, 20, 10);
        acted(x, 5, 2, 6, 26 ^ 11 ^ 5, 60, 12, 11, 20, 10, 20, 10);
        acted(x, 0, 1, Integer.MAX_VALUE, -2, 11, 10);
        acted(x, 1, 0, Integer.MAX_VALUE, Integer.MIN_VALUE + 2, 20, 10);
        x.goes();
        x.walker(6, 0, 0, 0, 2);
        acted(x, 5, 0, 7, 24, 70, 10);
        // 71 takes k off, 40 puts 1 on: steps of 6, twice 11, and that twice.
        acted(x, 5, 1, 7, 44, 71, 40, 11, 70, 10);
        acted(x, 5, 2, 7, 44 ^ 20, 12, 71, 40, 11, 70, 10, 70, 10);
        due("trace -1", x.trace(-1), -1);
        due("trace 0", x.trace(0), 12);
        acted(x, 6, 0, 7, 0);
        x.act(0, 2, 1);
        acted(x, -1, 0, 7, 0);
        x.act(0, 2, 1);
        acted(x, 0, 3, 7, 0);
        x.act(0, 2, 1);
        acted(x, 0, -1, 7, 0);
        due("nothing is refused", x.status(11) + x.status(15) + x.status(16), 0);
    }

    private static void promises38And39Image() {
        AsTheLastHeMet x = Check.told("gait 2 f;wall 40;walker 0 0 1 0 4;walker 0 0 1 0 4;walker 2 6 2 0 1;beat 3");
        due("none yet", x.restore(), -6);
        x.seed(9);
        due("image", x.image(), 3);
        int met = x.status(4);
        x.goes();
        due("meetings of these beats", x.beat(5), 5);
        x.goes();
        Check.write(x, 0, 0, "gait 0 ll;open 40;wall 41;walker 3 48 3 1 0;teach");
        due("fault", x.streets(0), -6);
        Check.write(x, 0, 0, "gait 0 ll;open 40;wall 41;walker 3 48 3 1 0;walker 4 47 3 1 0;walker 5 46 3 1 0");
        x.streets(0);
        x.show(1, 3);
        x.show(2, 0);
        x.show(3, 2);
        x.seed(3);
        x.teach(0, 1);
        x.act(0, 1, 3);
        due("restore", x.restore(), 3);
        due("gaits", x.status(0), 1);
        due("walls", x.status(2), 1);
        due("wall 40", x.isWall(40), 1);
        due("beats", x.status(3), 3);
        due("met", x.status(4), met);
        due("seed", x.status(5), 9);
        due("the trace stays", x.trace(0), 11);
        due("bodies stay", x.status(6), 2);
        due("refusals stay", x.status(16), 2);
        walkerIs("restored", x, 0, 3, 1, 0, 0, 0, 4);
        due("restored kind", x.walkerOf(2, 0), 2);
        walkerIs("restored", x, 2, 27, 2, 0, 0, 0, 1);
        due("the shelf of one who is not", x.holds(1), -1);
        due("the shelf of 0", x.holds(2), 0);
        due("the shelf of 2", x.holds(3), 2);
        due("a row stays", x.holds(0), 100);
        x.beat(9);
        due("restore again", x.restore(), 3);
        due("beats again", x.status(3), 3);
        faultIs(x, "wall", 4);
        x.restore();
        due("the fault stays", x.fault(), 4);
        x.goes();
        due("another image", x.image(), 2);
        due("restored", x.restore(), 2);
    }

    private static void promise40Status() {
        AsTheLastHeMet x = Check.told("gait 0 s;gait 0 s;walker 0 0 0 0 0;walker 0 0 0 0 0;walker 0 0 0 0 0;wall 1;wall 2;"
                + "wall 3;wall 4;beat 5");
        int[] many = {2, 3, 4, 5, 5, 1, 0, -1, -1, -1, -1, 0, 0, 0, 0, 0, 0, 0, -1};
        for (int what = 0; what < many.length; what++) {
            due("status " + what, x.status(what), many[what]);
        }
        due("status -1", x.status(-1), -1);
        due("status of great", x.status(Integer.MAX_VALUE), -1);
        due("status of small", x.status(Integer.MIN_VALUE), -1);
        x.streets(-1);
        x.show(6, 0);
        x.set(6, 0, 0);
        x.set(6, 0, 0);
        x.set(5, 0, 0);
        x.row(0, 0, -1);
        x.isWall(49);
        x.isWall(50);
        x.isWall(51);
        x.beat(0);
        x.row(0, 0, 161);
        int[] refused = {1, 2, 1, 1, 3, 1, 1};
        for (int i = 0; i < refused.length; i++) {
            due("status " + (11 + i), x.status(11 + i), refused[i]);
        }
        x.act(0, 2, 0);
        due("bodies", x.status(6), 4);
    }
}
