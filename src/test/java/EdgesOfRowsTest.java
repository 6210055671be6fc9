/** The edges that promises 1 to 8 name: a new object, shelves, rows, and what walkers on shelves say. */
public final class EdgesOfRowsTest {
    private static final int MIN = Integer.MIN_VALUE;
    private static final int MAX = Integer.MAX_VALUE;
    private static final String ORDER = "the first that fits, in this order";

    private EdgesOfRowsTest() {
    }

    public static void main(String[] args) {
        newObject();
        newObjectAnswers();
        row();
        rowRefused();
        set();
        setKeepsLowestBits();
        setRefused();
        copy();
        copyRefused();
        copyBeyond();
        element();
        show();
        holds();
        saysCounts();
        saysOfKinds();
        saysRefused();
        Edge.close(1, 8);
    }

    private static void newObject() {
        Edge.promise(1);
        Edge.in(AsTheLastHeMet::new);
        AsTheLastHeMet x = new AsTheLastHeMet();
        Edge.says("No GAITS, no WALKERS, no WALLS.");
        for (int what = 0; what <= 4; what++) {
            Edge.due("status " + what, x.status(what), 0);
        }
        for (int place = 0; place < 49; place++) {
            Edge.due("isWall " + place, x.isWall(place), 0);
        }
        for (int number = 11; number <= 17; number++) {
            Edge.due("status " + number, x.status(number), 0);
        }
        Edge.terms("each a WALL or not (at first not;");
        Edge.answers(0, y -> y.wall(0, false));
        Edge.answers(1, y -> y.wall(48, true));
        Edge.terms("SHELVES 0 to 7 hold NOTHING (at first)");
        for (int s = 0; s < 8; s++) {
            int shelf = s;
            Edge.leaves(-1, y -> y.holds(shelf));
            Edge.refused(-3, y -> y.set(shelf, 0, 1));
        }
        Edge.terms("SEED (1 at first)");
        Edge.leaves(1, y -> y.status(5));
        Edge.answers(1, y -> y.seed(7));
        Edge.terms("NONE = -1");
        Edge.due("NONE", AsTheLastHeMet.NONE, -1);
        Edge.terms("An object is used for at most 512 calls after it has been made");
        for (int i = 0; i < 511; i++) {
            x = i == 0 ? new AsTheLastHeMet() : x;
            x.row(i % 8, i % 4, i % 161);
        }
        Edge.due("the 512th call", x.row(0, 0, 161), -7);
    }

    private static void newObjectAnswers() {
        Edge.says("No GAITS, no WALKERS, no WALLS.");
        Edge.refused(-15, x -> x.gaitOf(0, -1));
        Edge.refused(-5, x -> x.walkerOf(0, 0));
        Edge.refused(-1, x -> x.walker(0, 0, 0, 0, 0));
        Edge.refused(-1, x -> x.show(0, 0));
        Edge.refused(-3, x -> x.says(0, 0));
        Edge.refused(-3, x -> x.streets(0));
        Edge.refused(-1, x -> x.at(0, 0, 0));
        Edge.refused(-1, x -> x.have(0, 0));
        Edge.leaves(0, x -> x.survives(0));
        Edge.leaves(0, x -> x.survives(400));
        Edge.refused(-11, x -> x.lost(0));
        Edge.refused(-11, x -> x.comes(0, 0));
        Edge.refused(-11, x -> x.meet(0, 1));
        Edge.leaves(0, x -> x.meetings(400));
        Edge.leaves(0, x -> x.ring(0));
        Edge.leaves(1, x -> x.ring(1));
        Edge.refused(-1, x -> x.alone(0, 0, 0));
        Edge.leaves(0, x -> x.alike());
        Edge.refused(-11, x -> x.hire(0, 0));
        Edge.refused(-3, x -> x.fit(0, 0));
        Edge.refused(-1, x -> x.began(0, 0, 0));
        Edge.refused(-1, x -> x.thief(0, 0));
        Edge.answers(0, x -> x.beat(99));
        Edge.refused(-5, x -> x.strangers(1));
        Edge.refused(-6, x -> x.goes());
        Edge.refused(-1, x -> x.teach(0, 0));
        Edge.leaves(0, x -> x.act(0, 0, 5));
        Edge.leaves(-1, x -> x.trace(0));
        Edge.leaves(-1, x -> x.fault());
        Edge.answers(0, x -> x.image());
        Edge.refused(-6, x -> x.restore());
    }

    private static void row() {
        Edge.promise(2);
        Edge.says("SHELF s holds a new ROW: 1.");
        for (int s = 0; s < 8; s++) {
            int shelf = s;
            Edge.answers(1, x -> x.row(shelf, 2, 4));
            AsTheLastHeMet y = Worlds.usual();
            y.row(s, 2, 4);
            Edge.due("holds " + s, y.holds(s), 102);
            for (int i = 0; i < 4; i++) {
                Edge.due("element of a new row", y.element(s, i), 0);
            }
            Edge.due("its last", y.set(s, 3, 9), 1);
            Edge.due("behind its last", y.set(s, 4, 9), -5);
        }
        Edge.terms("0 to 160 elements, 0 at first");
        Edge.answers(1, x -> x.row(0, 0, 0));
        Edge.answers(1, x -> x.row(7, 3, 160));
        AsTheLastHeMet full = new AsTheLastHeMet();
        full.row(0, 3, 160);
        for (int i = 0; i < 160; i++) {
            Edge.due("element " + i, full.element(0, i), 0);
            full.set(0, i, -1);
        }
        Edge.due("row of none over it", full.row(0, 3, 0), 1);
        Edge.due("its first", full.set(0, 0, 1), -5);
        Edge.due("row of 160 again", full.row(0, 3, 160), 1);
        for (int i = 0; i < 160; i++) {
            Edge.due("element " + i + " is new", full.element(0, i), 0);
        }
    }

    private static void rowRefused() {
        Edge.says("-1;");
        for (int s : new int[] {-1, 8, MIN, MAX}) {
            Edge.refused(-1, x -> x.row(s, 0, 1));
        }
        Edge.says("-4;");
        Edge.refused(-4, x -> x.row(0, 0, -1));
        Edge.refused(-4, x -> x.row(7, 3, MIN));
        Edge.says("-6 SORT;");
        for (int sort : new int[] {-1, 4, MIN, MAX}) {
            Edge.refused(-6, x -> x.row(0, sort, 1));
        }
        for (int sort = 0; sort < 4; sort++) {
            int right = sort;
            Edge.answers(1, x -> x.row(0, right, 1));
        }
        Edge.says("-7 n above 160.");
        Edge.refused(-7, x -> x.row(0, 0, 161));
        Edge.refused(-7, x -> x.row(2, 3, MAX));
        Edge.terms(ORDER);
        Edge.refused(-1, x -> x.row(8, 0, -1));
        Edge.refused(-1, x -> x.row(8, 4, 0));
        Edge.refused(-1, x -> x.row(-1, 0, 161));
        Edge.refused(-4, x -> x.row(0, 4, -1));
        Edge.refused(-6, x -> x.row(0, 4, 161));
    }

    private static void set() {
        Edge.promise(3);
        Edge.says("Element i of the ROW becomes v: 1.");
        AsTheLastHeMet x = new AsTheLastHeMet();
        x.row(0, 3, 160);
        Edge.due("set 0", x.set(0, 0, Long.MAX_VALUE), 1);
        Edge.due("set 159", x.set(0, 159, Long.MIN_VALUE), 1);
        Edge.due("element 0", x.element(0, 0), Long.MAX_VALUE);
        Edge.due("element 1", x.element(0, 1), 0);
        Edge.due("element 158", x.element(0, 158), 0);
        Edge.due("element 159", x.element(0, 159), Long.MIN_VALUE);
        Edge.due("set 0 again", x.set(0, 0, 0), 1);
        Edge.due("element 0", x.element(0, 0), 0);
    }

    private static void setKeepsLowestBits() {
        Edge.terms("what is put in keeps its lowest bits");
        long[][] bytes = {{127, 127}, {128, -128}, {255, -1}, {256, 0}, {-128, -128}, {-129, 127}, {-256, 0}};
        long[][] shorts = {{32767, 32767}, {32768, -32768}, {65535, -1}, {65536, 0}, {-32769, 32767}, {-65536, 0}};
        long[][] ints = {{MAX, MAX}, {MAX + 1L, MIN}, {0xffffffffL, -1}, {1L << 32, 0}, {MIN - 1L, MAX}, {-1L << 32, 0}};
        long[][] longs = {{1L << 32, 1L << 32}, {Long.MIN_VALUE, Long.MIN_VALUE}, {Long.MAX_VALUE, Long.MAX_VALUE}};
        long[][][] sorts = {bytes, shorts, ints, longs};
        for (int sort = 0; sort < 4; sort++) {
            AsTheLastHeMet x = new AsTheLastHeMet();
            x.row(0, sort, 1);
            for (long[] pair : sorts[sort]) {
                Edge.due("set " + pair[0], x.set(0, 0, pair[0]), 1);
                Edge.due(pair[0] + " of sort " + sort, x.element(0, 0), pair[1]);
            }
            x.set(0, 0, Long.MIN_VALUE);
            Edge.due("the least long of sort " + sort, x.element(0, 0), sort == 3 ? Long.MIN_VALUE : 0);
            x.set(0, 0, Long.MAX_VALUE);
            Edge.due("the greatest long of sort " + sort, x.element(0, 0), sort == 3 ? Long.MAX_VALUE : -1);
        }
    }

    private static void setRefused() {
        Edge.says("-1;");
        for (int s : new int[] {-1, 8, MIN, MAX}) {
            Edge.refused(-1, x -> x.set(s, 0, 1));
        }
        Edge.says("-2;");
        Edge.refused(-2, x -> x.set(2, 0, 1));
        Edge.says("-3;");
        Edge.refused(-3, x -> x.set(3, 0, 1));
        Edge.says("-5.");
        for (int i : new int[] {-1, 10, 159, 160, MIN, MAX}) {
            Edge.refused(-5, x -> x.set(0, i, 1));
        }
        Edge.refused(-5, x -> x.set(6, 0, 1));
        Edge.answers(1, x -> x.set(0, 9, 1));
        Edge.terms(ORDER);
        Edge.refused(-1, x -> x.set(8, -1, 1));
        Edge.refused(-2, x -> x.set(2, -1, 1));
        Edge.refused(-3, x -> x.set(3, -1, 1));
    }

    private static void rowIs(AsTheLastHeMet x, int s, int... want) {
        for (int i = 0; i < want.length; i++) {
            Edge.due("element " + i, x.element(s, i), want[i]);
        }
    }

    private static AsTheLastHeMet twoRows() {
        AsTheLastHeMet x = new AsTheLastHeMet();
        Check.fill(x, 0, 1, 2, 3, 4, 5);
        Check.fill(x, 1, 6, 7, 8);
        return x;
    }

    private static void copy() {
        Edge.promise(4);
        Edge.says("Elements i, i + 1, .. of the ROW in SHELF p, n of them, come to elements j, j + 1, .. of that in q");
        AsTheLastHeMet x = twoRows();
        Edge.due("all of the shorter one", x.copy(1, 0, 0, 2, 3), 1);
        rowIs(x, 0, 1, 2, 6, 7, 8);
        rowIs(x, 1, 6, 7, 8);
        x = twoRows();
        Edge.due("the last to the first", x.copy(0, 1, 4, 0, 1), 1);
        Edge.due("the first to the last", x.copy(0, 1, 0, 2, 1), 1);
        rowIs(x, 1, 5, 7, 1);
        x = twoRows();
        Edge.due("none", x.copy(0, 1, 0, 0, 0), 1);
        Edge.due("none at both ends", x.copy(0, 1, 5, 3, 0), 1);
        rowIs(x, 1, 6, 7, 8);
        x.row(2, 2, 0);
        Edge.due("none of an empty row", x.copy(2, 2, 0, 0, 0), 1);
        Edge.due("none into an empty row", x.copy(0, 2, 5, 0, 0), 1);
        x.row(3, 3, 160);
        x.row(4, 3, 160);
        x.set(3, 0, Long.MIN_VALUE);
        x.set(3, 159, Long.MAX_VALUE);
        Edge.due("160 longs", x.copy(3, 4, 0, 0, 160), 1);
        Edge.due("the first", x.element(4, 0), Long.MIN_VALUE);
        Edge.due("the last", x.element(4, 159), Long.MAX_VALUE);
        Edge.says("(as they were ahead)");
        x = twoRows();
        Edge.due("one farther", x.copy(0, 0, 0, 1, 4), 1);
        rowIs(x, 0, 1, 1, 2, 3, 4);
        x = twoRows();
        Edge.due("one back", x.copy(0, 0, 1, 0, 4), 1);
        rowIs(x, 0, 2, 3, 4, 5, 5);
        x = twoRows();
        Edge.due("onto itself", x.copy(0, 0, 0, 0, 5), 1);
        rowIs(x, 0, 1, 2, 3, 4, 5);
    }

    private static void copyRefused() {
        Edge.says("-1;");
        for (int s : new int[] {-1, 8, MIN, MAX}) {
            Edge.refused(-1, x -> x.copy(s, 0, 0, 0, 1));
            Edge.refused(-1, x -> x.copy(0, s, 0, 0, 1));
        }
        Edge.says("-2 also of two SORTS");
        Edge.refused(-2, x -> x.copy(0, 1, 0, 0, 1));
        Edge.refused(-2, x -> x.copy(4, 0, 0, 0, 1));
        Edge.refused(-2, x -> x.copy(0, 6, 0, 0, 0));
        Edge.refused(-2, x -> x.copy(2, 0, 0, 0, 1));
        Edge.refused(-2, x -> x.copy(0, 2, 0, 0, 1));
        Edge.refused(-2, x -> x.copy(2, 2, 0, 0, 1));
        Edge.refused(-2, x -> x.copy(2, 3, 0, 0, 1));
        Edge.refused(-2, x -> x.copy(3, 2, 0, 0, 1));
        Edge.says("(when both hold something)");
        Edge.refused(-3, x -> x.copy(1, 3, 0, 0, 1));
        Edge.refused(-3, x -> x.copy(3, 1, 0, 0, 1));
        Edge.says("-3 either;");
        Edge.refused(-3, x -> x.copy(3, 0, 0, 0, 1));
        Edge.refused(-3, x -> x.copy(0, 3, 0, 0, 1));
        Edge.refused(-3, x -> x.copy(3, 3, 0, 0, 0));
        Edge.says("-4 n;");
        Edge.refused(-4, x -> x.copy(0, 0, 0, 0, -1));
        Edge.refused(-4, x -> x.copy(0, 0, 0, 0, MIN));
        Edge.terms(ORDER);
        Edge.refused(-1, x -> x.copy(8, 2, 0, 0, 1));
        Edge.refused(-1, x -> x.copy(2, 8, 0, 0, 1));
        Edge.refused(-1, x -> x.copy(3, -1, 0, 0, -1));
        Edge.refused(-2, x -> x.copy(0, 1, -1, -1, -1));
        Edge.refused(-2, x -> x.copy(2, 3, -1, -1, -1));
        Edge.refused(-3, x -> x.copy(3, 0, -1, -1, -1));
        Edge.refused(-4, x -> x.copy(0, 0, -1, -1, -1));
    }

    private static void copyBeyond() {
        Edge.says("-5 i or j below 0, or an end that isn't there.");
        for (int i : new int[] {-1, MIN}) {
            Edge.refused(-5, x -> x.copy(0, 0, i, 0, 1));
            Edge.refused(-5, x -> x.copy(0, 0, 0, i, 1));
            Edge.refused(-5, x -> x.copy(0, 0, i, 0, 0));
            Edge.refused(-5, x -> x.copy(0, 0, 0, i, 0));
            Edge.refused(-5, x -> x.copy(0, 0, i, 0, MAX));
            Edge.refused(-5, x -> x.copy(0, 0, 0, i, MAX));
        }
        Edge.answers(1, x -> x.copy(0, 0, 7, 0, 3));
        Edge.answers(1, x -> x.copy(0, 0, 0, 7, 3));
        Edge.refused(-5, x -> x.copy(0, 0, 8, 0, 3));
        Edge.refused(-5, x -> x.copy(0, 0, 0, 8, 3));
        Edge.refused(-5, x -> x.copy(0, 0, 0, 0, 11));
        Edge.refused(-5, x -> x.copy(0, 0, 11, 0, 0));
        Edge.refused(-5, x -> x.copy(0, 0, 0, 11, 0));
        Edge.refused(-5, x -> x.copy(6, 6, 0, 0, 1));
        // Where the sum of both wraps around, the end isn't there either.
        Edge.refused(-5, x -> x.copy(0, 0, MAX, 0, 1));
        Edge.refused(-5, x -> x.copy(0, 0, 0, MAX, 1));
        Edge.refused(-5, x -> x.copy(0, 0, MAX, MAX, 0));
        Edge.refused(-5, x -> x.copy(0, 0, 1, 1, MAX));
        Edge.refused(-5, x -> x.copy(0, 0, MAX, MAX, MAX));
    }

    private static void element() {
        Edge.promise(5);
        Edge.says("Element i of the ROW;");
        Edge.leaves(0, x -> x.element(0, 0));
        Edge.leaves(9, x -> x.element(0, 9));
        Edge.leaves(-7, x -> x.element(1, 2));
        Edge.says("0 if there is none (nothing is refused).");
        for (int s : new int[] {-1, 8, MIN, MAX, 2, 3, 6}) {
            Edge.leaves(0, x -> x.element(s, 0));
            Edge.leaves(0, x -> x.element(s, -1));
        }
        for (int i : new int[] {-1, 3, 159, 160, MIN, MAX}) {
            Edge.leaves(0, x -> x.element(1, i));
        }
        Edge.in(() -> {
            AsTheLastHeMet x = Worlds.usual();
            x.row(4, 3, 160);
            for (int i = 0; i < 160; i++) {
                x.set(4, i, 7);
            }
            x.row(4, 3, 2);
            x.set(4, 1, 8);
            return x;
        });
        Edge.leaves(8, x -> x.element(4, 1));
        Edge.leaves(0, x -> x.element(4, 2));
        Edge.leaves(0, x -> x.element(4, 159));
    }

    private static void show() {
        Edge.promise(6);
        Edge.says("SHELF s holds a WALKER, or NOTHING (walker NONE): 1, 0.");
        for (int s = 0; s < 8; s++) {
            int shelf = s;
            for (int walker = -1; walker < 3; walker++) {
                int shown = walker;
                Edge.answers(walker == -1 ? 0 : 1, x -> x.show(shelf, shown));
                AsTheLastHeMet y = Worlds.usual();
                y.show(s, walker);
                Edge.due("holds", y.holds(s), walker);
                Edge.due("a row there was is gone", y.element(s, 1), 0);
                Edge.due("set", y.set(s, 0, 1), walker == -1 ? -3 : -2);
            }
        }
        Edge.in(Worlds::full);
        Edge.answers(1, x -> x.show(7, 5));
        Edge.in(Worlds::usual);
        Edge.says("-1.");
        for (int s : new int[] {-1, 8, MIN, MAX}) {
            Edge.refused(-1, x -> x.show(s, 0));
            Edge.refused(-1, x -> x.show(s, -1));
            Edge.refused(-1, x -> x.show(s, 3));
        }
        for (int walker : new int[] {-2, 3, 6, MIN, MAX}) {
            Edge.refused(-1, x -> x.show(0, walker));
            Edge.refused(-1, x -> x.show(2, walker));
            Edge.refused(-1, x -> x.show(3, walker));
        }
    }

    private static void holds() {
        Edge.promise(7);
        Edge.says("NONE NOTHING, or no such SHELF;");
        for (int s : new int[] {3, -1, 8, MIN, MAX}) {
            Edge.leaves(-1, x -> x.holds(s));
        }
        Edge.says("a WALKER's number;");
        Edge.leaves(1, x -> x.holds(2));
        Edge.leads(0, x -> x.show(3, 0), x -> x.holds(3));
        Edge.in(Worlds::full);
        Edge.leaves(5, x -> x.holds(2));
        Edge.in(Worlds::usual);
        Edge.says("100 and the SORT of a ROW.");
        Edge.leaves(100, x -> x.holds(1));
        Edge.leaves(101, x -> x.holds(6));
        Edge.leaves(102, x -> x.holds(0));
        Edge.leaves(103, x -> x.holds(4));
    }

    /** All six of a kind that gives, with a gait of eight steps, at these places; walker 0 on shelf 0. */
    private static AsTheLastHeMet six(int kind, int... places) {
        AsTheLastHeMet x = new AsTheLastHeMet();
        for (int g = 0; g < 8; g++) {
            Worlds.gait(x, "ssssssss", 0);
        }
        for (int i = 0; i < 6; i++) {
            x.walker(i == 0 ? kind : 1, places[i], 0, 0, 0);
        }
        x.show(0, 0);
        return x;
    }

    private static void saysCounts() {
        Edge.promise(8);
        Edge.says("WALKER his GAIT;");
        Edge.in(() -> six(0, 0, 1, 2, 3, 4, 5));
        Edge.leaves(0, x -> x.says(0, 0));
        Edge.leads(7, x -> x.teach(0, 7), x -> x.says(0, 0));
        Edge.says("KEEPER how many others have his;");
        Edge.in(() -> six(1, 0, 1, 2, 3, 4, 5));
        Edge.leaves(5, x -> x.says(0, 1));
        Edge.leads(0, x -> x.teach(0, 7), x -> x.says(0, 1));
        Edge.leads(1, x -> x.teach(0, 7) + x.teach(5, 7), x -> x.says(0, 1));
        Edge.says("SHY how many are at his PLACE besides;");
        Edge.in(() -> six(2, 0, 1, 7, 8, 2, 3));
        Edge.leaves(0, x -> x.says(0, 2));
        Edge.in(() -> six(2, 48, 48, 48, 48, 48, 48));
        Edge.leaves(5, x -> x.says(0, 2));
        Edge.says("TAKER DONE;");
        Edge.in(() -> six(3, 0, 1, 2, 3, 4, 5));
        Edge.leaves(0, x -> x.says(0, 3));
        Edge.leads(7, x -> x.beat(7), x -> x.says(0, 3));
        Edge.leads(0, x -> x.beat(8), x -> x.says(0, 3));
        Edge.says("MIRROR TURNED;");
        Edge.in(() -> six(4, 0, 1, 2, 3, 4, 5));
        Edge.leaves(0, x -> x.says(0, 4));
        Edge.in(() -> six(4, 1, 1, 2, 3, 4, 5));
        Edge.leads(1, x -> x.beat(99), x -> x.says(0, 4));
        Edge.says("LOUD how many are beside him;");
        Edge.in(() -> six(5, 24, 17, 25, 31, 23, 24));
        Edge.leaves(4, x -> x.says(0, 5));
        Edge.in(() -> six(5, 0, 1, 1, 7, 7, 7));
        Edge.leaves(5, x -> x.says(0, 5));
        Edge.in(() -> six(5, 0, 6, 8, 42, 2, 14));
        Edge.leaves(0, x -> x.says(0, 5));
        Edge.in(() -> six(5, 6, 7, 14, 13, 5, 0));
        Edge.leaves(2, x -> x.says(0, 5));
        Edge.in(() -> six(5, 7, 6, 13, 8, 14, 0));
        Edge.leaves(3, x -> x.says(0, 5));
        Edge.in(() -> six(5, 48, 47, 41, 40, 34, 46));
        Edge.leaves(2, x -> x.says(0, 5));
        // The last one is told of the first, too.
        Edge.in("gait 0 s;walker 0 0 0 0 0;walker 5 1 0 0 0");
        Edge.leads(1, x -> x.show(0, 1), x -> x.says(0, 5));
        Edge.leads(1, x -> x.show(0, 1), x -> x.says(0, 1));
        Edge.in("gait 0 s;walker 0 1 0 0 0;walker 2 1 0 0 0");
        Edge.leads(1, x -> x.show(0, 1), x -> x.says(0, 2));
        Edge.says("FICKLE how many GAITS have a higher number than his.");
        Edge.in(() -> six(6, 0, 1, 2, 3, 4, 5));
        Edge.leaves(7, x -> x.says(0, 6));
        Edge.leads(0, x -> x.teach(0, 7), x -> x.says(0, 6));
        Edge.leads(1, x -> x.teach(0, 6), x -> x.says(0, 6));
    }

    private static void saysOfKinds() {
        Edge.terms("1 KEEPER, 2 SHY, 3 TAKER, each under WALKER; 4 MIRROR, 6 FICKLE, each under TAKER; 5 LOUD, under KEEPER;");
        // For each kind the bits of the kinds for which he may be taken.
        int[] kinds = {1, 1 | 2, 1 | 4, 1 | 8, 1 | 8 | 16, 1 | 2 | 32, 1 | 8 | 64};
        for (int kind = 0; kind < 7; kind++) {
            for (int wanted = 0; wanted < 7; wanted++) {
                int his = kind;
                int asked = wanted;
                Edge.in(() -> {
                    AsTheLastHeMet x = Check.told("gait 0 s");
                    x.walker(his, 0, 0, 0, 0);
                    x.show(0, 0);
                    return x;
                });
                if ((kinds[kind] >> wanted & 1) == 1) {
                    Edge.leaves(0, x -> x.says(0, asked));
                } else {
                    Edge.refused(-2, x -> x.says(0, asked));
                }
            }
        }
        Edge.in(Worlds::usual);
    }

    private static void saysRefused() {
        Edge.says("-1 SHELF, KIND;");
        for (int s : new int[] {-1, 8, MIN, MAX}) {
            Edge.refused(-1, x -> x.says(s, 0));
        }
        for (int kind : new int[] {-1, 7, MIN, MAX}) {
            Edge.refused(-1, x -> x.says(2, kind));
        }
        Edge.says("-2 also a WALKER of another KIND;");
        Edge.refused(-2, x -> x.says(2, 1));
        Edge.refused(-2, x -> x.says(2, 6));
        Edge.refused(-2, x -> x.says(0, 0));
        Edge.refused(-2, x -> x.says(6, 0));
        Edge.leaves(0, x -> x.says(2, 4));
        Edge.says("-3.");
        Edge.refused(-3, x -> x.says(3, 0));
        Edge.refused(-3, x -> x.says(3, 6));
        Edge.terms(ORDER);
        Edge.refused(-1, x -> x.says(8, 7));
        Edge.refused(-1, x -> x.says(0, 7));
        Edge.refused(-1, x -> x.says(3, -1));
    }
}
