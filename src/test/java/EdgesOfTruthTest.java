import java.math.BigInteger;

/** The edges that promises 31 to 40 name: what is done in truth, draws, acts, the image, and what is counted. */
public final class EdgesOfTruthTest {
    private static final int MIN = Integer.MIN_VALUE;
    private static final int MAX = Integer.MAX_VALUE;
    private static final String ORDER = "the first that fits, in this order";

    private EdgesOfTruthTest() {
    }

    public static void main(String[] args) {
        beat();
        strangers();
        strangersRefused();
        strangersDraws();
        strangersPlaces();
        goes();
        teach();
        seed();
        act();
        actOfNobody();
        trace();
        image();
        restore();
        restoreShelves();
        restoreKeeps();
        status();
        statusOfRefusals();
        Edge.close(31, 40);
    }

    private static void beat() {
        Edge.promise(31);
        Edge.says("n BEATS (1 to 99) in truth: MEETINGS of these.");
        Edge.in("gait 0 sss" + ";walker 1 0 0 0 0;walker 1 5 0 0 0".repeat(3));
        Edge.answers(2, x -> x.beat(1));
        Edge.answers(198, x -> x.beat(99));
        Edge.leads(1, x -> x.beat(1), x -> x.walkerOf(5, 4));
        Edge.leads(0, x -> x.beat(99), x -> x.walkerOf(5, 4));
        Edge.terms("IN TRUTH BEATS go by: BEATS, MET (MEETINGS) are counted.");
        AsTheLastHeMet x = Check.told("gait 0 f;gait 0 s;walker 1 0 1 0 0;walker 1 3 1 1 0");
        Edge.due("of two", x.beat(2), 0);
        Edge.due("of the third", x.beat(1), 1);
        Edge.due("of the next one", x.beat(1), 0);
        Edge.due("BEATS", x.status(3), 4);
        Edge.due("MET", x.status(4), 1);
        Edge.in(AsTheLastHeMet::new);
        Edge.answers(0, y -> y.beat(99));
        Edge.leads(198, y -> y.beat(99) + y.beat(99), y -> y.status(3));
        Edge.in(Worlds::usual);
        Edge.says("-6.");
        for (int n : new int[] {-1, 0, 100, 400, MIN, MAX}) {
            Edge.refused(-6, y -> y.beat(n));
        }
    }

    /** SEED behind a draw: the document's product, told by numbers without bounds. */
    private static int seedBehind(int seed) {
        return BigInteger.valueOf(seed).multiply(BigInteger.valueOf(1103515245)).add(BigInteger.valueOf(12345)).intValue();
    }

    private static int drawn(int seedBehind, int below) {
        return (int) ((Integer.toUnsignedLong(seedBehind) >> 16) % below);
    }

    private static void strangers() {
        Edge.promise(32);
        Edge.says("STRANGERS: n (1 to 6) come, until there is no room: how many came.");
        Edge.in("gait 0 s;gait 0 s");
        for (int n = 1; n <= 6; n++) {
            int come = n;
            Edge.answers(n, x -> x.strangers(come));
            Edge.leads(n, x -> x.strangers(come), x -> x.status(1));
        }
        Edge.in("gait 0 s" + ";walker 0 0 0 0 0".repeat(5));
        Edge.answers(1, x -> x.strangers(1));
        Edge.answers(1, x -> x.strangers(6));
        Edge.leads(6, x -> x.strangers(2), x -> x.status(1));
        Edge.in("gait 0 s" + ";walker 0 0 0 0 0".repeat(4));
        Edge.answers(2, x -> x.strangers(2));
        Edge.answers(2, x -> x.strangers(3));
        Edge.terms("With 6 WALKERS no DRAW is made for a STRANGER.");
        Edge.in(Worlds::full);
        for (int n = 1; n <= 6; n++) {
            int come = n;
            Edge.leaves(0, x -> x.strangers(come));
        }
        AsTheLastHeMet x = Check.told("gait 0 s" + ";walker 0 0 0 0 0".repeat(5));
        AsTheLastHeMet y = Check.told("gait 0 s" + ";walker 0 0 0 0 0".repeat(5));
        x.strangers(1);
        y.strangers(6);
        Edge.due("as many draws for one as for six, of whom one comes", x.status(5), y.status(5));
        Edge.terms("GAIT a DRAW below how many there are; KIND WALKER, a 0");
        AsTheLastHeMet z = Check.told("gait 0 s;wall 3");
        z.strangers(6);
        for (int w = 0; w < 6; w++) {
            for (int what : new int[] {0, 3, 4, 5, 6}) {
                Edge.due("walkerOf(" + w + ", " + what + ")", z.walkerOf(w, what), 0);
            }
            for (int other = 0; other < w; other++) {
                Edge.holds("each has a place of his own", z.walkerOf(w, 1) != z.walkerOf(other, 1));
            }
        }
    }

    private static void strangersRefused() {
        Edge.says("-5 there is no GAIT;");
        Edge.in(AsTheLastHeMet::new);
        Edge.refused(-5, x -> x.strangers(1));
        Edge.refused(-5, x -> x.strangers(6));
        Edge.terms(ORDER);
        Edge.refused(-5, x -> x.strangers(0));
        Edge.refused(-5, x -> x.strangers(7));
        Edge.says("-6.");
        Edge.in(Worlds::usual);
        for (int n : new int[] {-1, 0, 7, MIN, MAX}) {
            Edge.refused(-6, x -> x.strangers(n));
        }
        Edge.in(Worlds::full);
        Edge.refused(-6, x -> x.strangers(7));
    }

    private static void strangersDraws() {
        Edge.terms("SEED (1 at first) becomes SEED times 1103515245, and 12345 (an int, wrapping); its upper 16 bits, no sign, "
                + "modulo n.");
        int[] seeds = {1, 0, -1, MIN, MAX, 12345, -12345, 0x7fff0000, 0x80000000, 1 << 16, -1 << 16};
        for (int seed : seeds) {
            AsTheLastHeMet x = Check.told("gait 0 s;gait 0 s;gait 0 s;gait 0 s;gait 0 s");
            x.seed(seed);
            x.strangers(1);
            int first = seedBehind(seed);
            int second = seedBehind(first);
            int third = seedBehind(second);
            Edge.due("place", x.walkerOf(0, 1), drawn(first, 49));
            Edge.due("way", x.walkerOf(0, 2), drawn(second, 4));
            Edge.due("gait", x.walkerOf(0, 3), drawn(third, 5));
            Edge.due("seed", x.status(5), third);
        }
        Edge.holds("a draw with its highest bit is among these", seedBehind(seeds[0]) < 0 || seedBehind(seeds[1]) < 0
                || seedBehind(seeds[2]) < 0 || seedBehind(seeds[3]) < 0);
    }

    /** All places are walls but two: at 20 somebody stands, and 30 is free. */
    private static AsTheLastHeMet oneFree(int seed) {
        AsTheLastHeMet x = Check.told("gait 0 s;walker 0 20 0 0 0");
        for (int place = 0; place < 49; place++) {
            if (place != 20 && place != 30) {
                x.wall(place, true);
            }
        }
        x.seed(seed);
        return x;
    }

    /** From which seed on 30 is drawn by so many draws first. */
    private static int seedFor(int draws) {
        for (int seed = 0; seed < 1_000_000; seed++) {
            int now = seed;
            int made = 0;
            do {
                now = seedBehind(now);
                made++;
            } while (made <= draws && drawn(now, 49) != 30);
            if (made == draws) {
                return seed;
            }
        }
        throw new IllegalStateException("no such seed");
    }

    private static void strangersPlaces() {
        Edge.terms("PLACE a DRAW below 49 (again and again until it is free and no WALL; 100 DRAWS at most, else he doesn't come)");
        for (int draws : new int[] {1, 2, 99, 100}) {
            int seed = seedFor(draws);
            AsTheLastHeMet x = oneFree(seed);
            Edge.due("he comes", x.strangers(1), 1);
            Edge.due("to 30", x.walkerOf(1, 1), 30);
            int behind = seed;
            for (int i = 0; i < draws + 2; i++) {
                behind = seedBehind(behind);
            }
            Edge.due("so many draws, and two for way and gait", x.status(5), behind);
        }
        int late = seedFor(101);
        AsTheLastHeMet x = oneFree(late);
        Edge.due("he doesn't come by the 101st", x.strangers(1), 0);
        Edge.due("nobody more", x.status(1), 1);
        int behind = late;
        for (int i = 0; i < 100; i++) {
            behind = seedBehind(behind);
        }
        Edge.due("100 draws", x.status(5), behind);
        Edge.due("the next one comes", x.strangers(1), 1);
        Edge.due("that next one, of two", oneFree(late).strangers(2), 1);
        Edge.in(() -> {
            AsTheLastHeMet y = oneFree(5);
            y.wall(30, true);
            return y;
        });
        Edge.answers(0, y -> y.strangers(6));
        Edge.leads(1, y -> y.strangers(6), y -> y.status(1));
    }

    private static void goes() {
        Edge.promise(33);
        Edge.says("The last WALKER goes: how many are left (SHELVES that hold him hold NOTHING).");
        AsTheLastHeMet x = Worlds.full();
        for (int s = 1; s < 8; s++) {
            x.show(s, Math.min(s, 5));
        }
        for (int left = 5; left >= 0; left--) {
            Edge.due("goes", x.goes(), left);
            Edge.due("how many", x.status(1), left);
            for (int s = 1; s < 8; s++) {
                int held = Math.min(s, 5);
                Edge.due("shelf " + s, x.holds(s), held < left ? held : -1);
            }
            Edge.due("a row stays", x.holds(0), 102);
            Edge.due("he is gone", x.walkerOf(left, 0), -5);
            Edge.due("his place is free", x.wall(10 + 2 * left, true), 1);
        }
        AsTheLastHeMet all = Worlds.full();
        for (int s = 0; s < 8; s++) {
            all.show(s, 5);
        }
        Edge.due("goes", all.goes(), 5);
        for (int s = 0; s < 8; s++) {
            Edge.due("shelf " + s, all.holds(s), -1);
        }
        Edge.says("-6 there is none.");
        Edge.due("goes", x.goes(), -6);
        Edge.in(AsTheLastHeMet::new);
        Edge.refused(-6, y -> y.goes());
        Edge.in("gait 0 s;walker 0 0 0 0 0");
        Edge.answers(0, y -> y.goes());
        Edge.in(() -> {
            AsTheLastHeMet y = Check.told("gait 0 s;walker 0 0 0 0 0");
            y.goes();
            return y;
        });
        Edge.refused(-6, y -> y.goes());
    }

    private static void teach() {
        Edge.promise(34);
        Edge.says("GAIT of a WALKER becomes another, DONE 0: what it was.");
        Edge.answers(0, x -> x.teach(0, 2));
        Edge.answers(1, x -> x.teach(1, 0));
        AsTheLastHeMet x = Worlds.full();
        Edge.due("the last, the last", x.teach(5, 7), 5);
        Edge.due("back", x.teach(5, 5), 7);
        x.beat(3);
        Edge.due("DONE", x.walkerOf(5, 4), 3);
        Edge.due("his own", x.teach(5, 5), 5);
        Edge.due("DONE", x.walkerOf(5, 4), 0);
        Edge.due("of another, DONE stays", x.walkerOf(4, 4), 3);
        // One whose DONE would be too far in the other gait begins it.
        x.beat(5);
        Edge.due("to a gait of one step", x.teach(5, 0), 5);
        Edge.due("DONE", x.walkerOf(5, 4), 0);
        Edge.says("-1.");
        for (int walker : new int[] {-1, 3, 6, MIN, MAX}) {
            Edge.refused(-1, y -> y.teach(walker, 0));
        }
        for (int gait : new int[] {-1, 3, 8, MIN, MAX}) {
            Edge.refused(-1, y -> y.teach(0, gait));
        }
        Edge.in(Worlds::full);
        Edge.refused(-1, y -> y.teach(6, 7));
        Edge.refused(-1, y -> y.teach(5, 8));
    }

    private static void seed() {
        Edge.promise(35);
        Edge.says("SEED becomes v: what it was (nothing is refused).");
        for (int v : new int[] {0, 1, -1, MIN, MAX}) {
            Edge.answers(77, x -> x.seed(v));
            Edge.leads(v, x -> x.seed(v), x -> x.status(5));
            Edge.leads(v, x -> x.seed(v), x -> x.seed(5));
        }
    }

    private static AsTheLastHeMet actor(int kind, int number, int a) {
        AsTheLastHeMet x = Check.told("gait 0 s");
        for (int w = 0; w <= number; w++) {
            x.walker(w == number ? kind : 2, 0, 0, 0, w == number ? a : 4);
        }
        return x;
    }

    private static int steps(int kind, int m, int k, long x) {
        int first = (int) (x + m);
        switch (kind) {
            case 1:
            case 5: return first + k;
            case 4: return first - m;
            case 6: return 2 * first;
            default: return first;
        }
    }

    private static int meets(int kind, int m, int k, long x) {
        switch (kind) {
            case 2: return 3 * (2 * steps(kind, m, k, x));
            case 3:
            case 4: return 2 * steps(kind, m, k, (int) (x + 1));
            case 6: return 2 * steps(kind, m, k, (int) (x - k + 1));
            default: return 2 * steps(kind, m, k, x);
        }
    }

    private static int takes(int kind, int m, int k, long x) {
        int all = meets(kind, m, k, x) ^ steps(kind, m, k, (int) (x - k));
        return kind == 4 ? -all : kind == 5 ? all ^ 5 : all;
    }

    private static void act() {
        Edge.promise(36);
        Edge.terms("ACTS of WALKERS, with x (wrapping): 0 steps, 1 meets, 2 takes; m the number, k his a.");
        int[] values = {0, 1, -1, MAX, MAX - 1, MIN, MIN + 1, MAX / 2 + 1, MAX / 3 + 1, -7};
        for (int kind = 0; kind <= 6; kind++) {
            for (int number : new int[] {0, 1, 5}) {
                for (int k : new int[] {0, 1, 9}) {
                    AsTheLastHeMet x = actor(kind, number, k);
                    for (int v : values) {
                        Edge.due("steps", x.act(number, 0, v), steps(kind, number, k, v));
                        Edge.due("meets", x.act(number, 1, v), meets(kind, number, k, v));
                        Edge.due("takes", x.act(number, 2, v), takes(kind, number, k, v));
                    }
                }
            }
        }
        Edge.in(() -> actor(0, 5, 9));
        Edge.answers(MIN + 4, x -> x.act(5, 0, MAX));
        Edge.answers(8, x -> x.act(5, 1, MAX));
    }

    private static void actOfNobody() {
        Edge.in(Worlds::usual);
        Edge.says("0, and no TRACE then: no such WALKER, act.");
        for (int walker : new int[] {-1, 3, 6, MIN, MAX}) {
            Edge.answers(0, x -> x.act(walker, 0, 7));
            Edge.leads(-1, x -> x.act(walker, 0, 7), x -> x.trace(0));
            Edge.leads(0, x -> x.act(walker, 0, 7), x -> x.status(6));
        }
        for (int act : new int[] {-1, 3, MIN, MAX}) {
            Edge.answers(0, x -> x.act(0, act, 7));
            Edge.leads(-1, x -> x.act(0, act, 7), x -> x.trace(0));
            Edge.leads(0, x -> x.act(0, act, 7), x -> x.status(6));
        }
    }

    private static void traced(int kind, int act, int... bodies) {
        AsTheLastHeMet x = actor(kind, 3, 2);
        // An act with more bodies, ahead of it: what they were is gone.
        x.walker(4, 0, 0, 0, 0);
        x.act(4, 2, 5);
        x.act(3, act, 11);
        Edge.due("bodies", x.status(6), bodies.length);
        for (int i = 0; i < bodies.length; i++) {
            Edge.due("trace " + i, x.trace(i), bodies[i]);
        }
        for (int i : new int[] {-1, bodies.length, 8, 19, 20, 21, MIN, MAX}) {
            Edge.due("trace " + i, x.trace(i), -1);
        }
    }

    private static void trace() {
        Edge.promise(37);
        Edge.terms("the numbers of the bodies that ran in the latest act(), in the order in which they began; the first 20 are "
                + "kept.");
        int[][] steps = {{10}, {20, 10}, {10}, {10}, {51, 10}, {20, 10}, {70, 10}};
        int[][] meets = {{11, 10}, {11, 20, 10}, {30, 11, 10}, {40, 11, 10}, {40, 11, 51, 10}, {11, 20, 10},
            {71, 40, 11, 70, 10}};
        int[][] takes = {{12, 11, 10, 10}, {12, 11, 20, 10, 20, 10}, {12, 30, 11, 10, 10}, {12, 40, 11, 10, 10},
            {50, 12, 40, 11, 51, 10, 51, 10}, {60, 12, 11, 20, 10, 20, 10}, {12, 71, 40, 11, 70, 10, 70, 10}};
        for (int kind = 0; kind <= 6; kind++) {
            traced(kind, 0, steps[kind]);
            traced(kind, 1, meets[kind]);
            traced(kind, 2, takes[kind]);
        }
        Edge.says("THE TRACE's i-th body. NONE: none such.");
        Edge.in(AsTheLastHeMet::new);
        for (int i : new int[] {-1, 0, 20, MIN, MAX}) {
            Edge.leaves(-1, x -> x.trace(i));
        }
        // The usual world's act was a mirror's takes: eight bodies, the most there are.
        Edge.in(Worlds::usual);
        Edge.leaves(10, x -> x.trace(7));
        for (int i : new int[] {-1, 8, 19, 20, MIN, MAX}) {
            Edge.leaves(-1, x -> x.trace(i));
        }
    }

    private static void image() {
        Edge.promise(38);
        Edge.says("THE IMAGE of all but SHELVES (and THE IMAGE, REFUSALS, the FAULT, THE TRACE) is taken: how many WALKERS.");
        Edge.in(AsTheLastHeMet::new);
        Edge.answers(0, x -> x.image());
        Edge.in(Worlds::usual);
        Edge.answers(3, x -> x.image());
        Edge.in(Worlds::full);
        Edge.answers(6, x -> x.image());
        // The latest image is the one there is.
        AsTheLastHeMet x = Worlds.full();
        for (int left = 5; left >= 0; left--) {
            x.goes();
            Edge.due("image", x.image(), left);
            x.strangers(6);
            Edge.due("restore", x.restore(), left);
        }
    }

    private static void restore() {
        Edge.promise(39);
        Edge.says("-6 there is none.");
        Edge.in(AsTheLastHeMet::new);
        Edge.refused(-6, x -> x.restore());
        Edge.in(Worlds::full);
        Edge.refused(-6, x -> x.restore());
        Edge.says("All is as THE IMAGE has it;");
        // An image of a new object: all that came later is gone.
        AsTheLastHeMet x = new AsTheLastHeMet();
        x.image();
        Worlds.gait(x, "f", 0);
        x.wall(0, true);
        x.strangers(6);
        x.beat(99);
        Edge.due("restore", x.restore(), 0);
        int[] none = {0, 0, 0, 0, 0, 1};
        for (int what = 0; what < none.length; what++) {
            Edge.due("status " + what, x.status(what), none[what]);
        }
        Edge.due("no wall", x.isWall(0), 0);
        // An image of a full one: all that went or changed is back.
        AsTheLastHeMet full = Worlds.full();
        full.wall(0, true);
        full.wall(48, true);
        full.seed(MIN);
        full.beat(3);
        full.image();
        AsTheLastHeMet same = Worlds.full();
        same.wall(0, true);
        same.wall(48, true);
        same.seed(MIN);
        same.beat(3);
        for (int w = 0; w < 6; w++) {
            full.goes();
        }
        full.wall(48, false);
        full.wall(10, true);
        full.beat(7);
        full.strangers(6);
        full.show(2, -1);
        same.show(2, -1);
        same.image();
        Edge.due("restore", full.restore(), 6);
        Edge.sameAs(full, same);
        // Restored twice, and from the same image after more.
        full.restore();
        full.teach(0, 7);
        full.beat(9);
        full.restore();
        Edge.holds("as the image has it", Edge.seen(full).equals(Edge.seen(same)));
    }

    private static void restoreShelves() {
        Edge.says("SHELVES with WALKERS hold those of these numbers, or NOTHING: how many WALKERS.");
        for (int then = 0; then <= 6; then++) {
            AsTheLastHeMet x = Worlds.full();
            for (int left = 6; left > then; left--) {
                x.goes();
            }
            x.image();
            x.strangers(6);
            for (int s = 1; s < 7; s++) {
                x.show(s, s - 1);
            }
            Edge.due("restore", x.restore(), then);
            Edge.due("a row stays", x.holds(0), 102);
            Edge.due("nothing stays", x.holds(7), -1);
            for (int s = 1; s < 7; s++) {
                Edge.due("shelf " + s, x.holds(s), s - 1 < then ? s - 1 : -1);
            }
        }
    }

    private static void restoreKeeps() {
        Edge.promise(38);
        Edge.says("all but SHELVES (and THE IMAGE, REFUSALS, the FAULT, THE TRACE)");
        AsTheLastHeMet x = Worlds.usual();
        x.set(0, 3, 123);
        x.row(-1, 0, 0);
        x.act(0, 1, 4);
        Check.write(x, 7, 0, "wall");
        x.streets(7);
        long[] refused = new long[8];
        for (int number = 1; number <= 7; number++) {
            refused[number] = x.status(10 + number);
        }
        x.restore();
        for (int number = 1; number <= 7; number++) {
            Edge.due("refusals", x.status(10 + number), refused[number]);
        }
        Edge.due("the row", x.element(0, 3), 123);
        Edge.due("the fault", x.fault(), 4);
        Edge.due("bodies", x.status(6), 2);
        Edge.due("trace", x.trace(1), 10);
        Edge.due("the image stays", x.restore(), 3);
    }

    private static void status() {
        Edge.promise(40);
        Edge.says("How many: 0 GAITS, 1 WALKERS, 2 WALLS, 3 BEATS, 4 MET, 5 SEED, 6 bodies that ran in the latest act() (all, kept "
                + "or not);");
        int[] usual = {3, 3, 3, 2, 0, 77, 8};
        for (int what = 0; what <= 6; what++) {
            int asked = what;
            Edge.leaves(usual[what], x -> x.status(asked));
        }
        Edge.in(Worlds::full);
        Edge.leaves(8, x -> x.status(0));
        Edge.leaves(6, x -> x.status(1));
        Edge.in(() -> {
            AsTheLastHeMet x = new AsTheLastHeMet();
            for (int place = 0; place < 49; place++) {
                x.wall(place, true);
            }
            return x;
        });
        Edge.leaves(49, x -> x.status(2));
        Edge.in(Worlds::usual);
        Edge.says("NONE for another what.");
        for (int what : new int[] {-1, 7, 8, 9, 10, 18, 19, 100, MIN, MIN + 9, MIN + 10, MIN + 11, MIN + 17, MAX}) {
            Edge.leaves(-1, x -> x.status(what));
        }
    }

    private static void statusOfRefusals() {
        Edge.says("11 to 17: REFUSALS -1 to -7.");
        Edge.refused(-1, x -> x.row(8, 0, 0));
        Edge.refused(-2, x -> x.set(2, 0, 0));
        Edge.refused(-3, x -> x.set(3, 0, 0));
        Edge.refused(-4, x -> x.row(0, 0, -1));
        Edge.refused(-5, x -> x.isWall(49));
        Edge.refused(-6, x -> x.beat(0));
        Edge.refused(-7, x -> x.row(0, 0, 161));
        AsTheLastHeMet x = new AsTheLastHeMet();
        for (int i = 1; i <= 100; i++) {
            x.beat(0);
            x.gaitOf(0, 0);
            x.lost(0);
            Edge.due("-6", x.status(16), i);
            Edge.due("-15 as -5", x.status(15), i);
            Edge.due("-11 as -1", x.status(11), i);
        }
        Edge.due("-7", x.status(17), 0);
        // What a text is refused for counts once.
        Check.write(x, 0, 0, "wall 49;wall 50;beat 0");
        x.streets(0);
        Edge.due("-6", x.status(16), 101);
    }
}
