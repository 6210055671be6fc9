import java.util.List;

/** The edges that promises 9 to 16 name: gaits, walkers, walls, and streets read from texts. */
public final class EdgesOfStreetsTest {
    private static final int MIN = Integer.MIN_VALUE;
    private static final int MAX = Integer.MAX_VALUE;
    private static final String ORDER = "the first that fits, in this order";

    private EdgesOfStreetsTest() {
    }

    public static void main(String[] args) {
        gait();
        gaitOfLongs();
        gaitRefused();
        gaitOf();
        walker();
        walkerRefused();
        walkerOf();
        wall();
        isWall();
        streets();
        streetsOfItems();
        streetsTellAllOrNothing();
        streetsRefused();
        fault();
        faultOfText();
        faultOfNumbers();
        faultOfSteps();
        faultAsThingsStand();
        faultOfRoom();
        Edge.close(9, 16);
    }

    private static void gait() {
        Edge.promise(9);
        Edge.says("A GAIT by the first n elements of the ROW in SHELF s (its STEPS): the number.");
        Edge.answers(3, x -> x.gait(0, 1, 0));
        Edge.answers(3, x -> x.gait(0, 8, 2));
        // Of shelf 0 the last element is no step: it doesn't count where it is not among the first n.
        AsTheLastHeMet x = Worlds.usual();
        x.gait(0, 8, 2);
        int[] steps = {0, 1, 2, 3, 0, 1, 2, 3};
        for (int i = 0; i < 8; i++) {
            Edge.due("step " + i, x.gaitOf(3, i), steps[i]);
        }
        Edge.due("how many", x.gaitOf(3, -1), 8);
        x.set(0, 0, 3);
        Edge.due("the gait is not the row's", x.gaitOf(3, 0), 0);
        Edge.terms("GAITS have numbers, from 0 on, 8 at most");
        AsTheLastHeMet y = new AsTheLastHeMet();
        for (int g = 0; g < 8; g++) {
            Edge.due("gait " + g, Worlds.gait(y, "f", 0), g);
        }
        Edge.due("how many", y.status(0), 8);
        Edge.due("a ninth", Worlds.gait(y, "f", 0), -7);
        Edge.terms("(0 turn left, 1 turn right, 2 turn back)");
        for (int wall = 0; wall <= 2; wall++) {
            int told = wall;
            Edge.leads(wall, z -> z.gait(0, 2, told), z -> z.gaitOf(3, -2));
        }
    }

    private static void gaitOfLongs() {
        Edge.terms("(As ints: of longs the lowest 32 bits.)");
        AsTheLastHeMet x = new AsTheLastHeMet();
        x.row(0, 3, 2);
        x.set(0, 0, 0x7fffffff00000003L);
        x.set(0, 1, Long.MIN_VALUE);
        Edge.due("steps 3 and 0", x.gait(0, 2, 0), 0);
        Edge.due("step 3", x.gaitOf(0, 0), 3);
        Edge.due("step 0", x.gaitOf(0, 1), 0);
        x.set(0, 1, 0x100000004L);
        Edge.due("step 4", x.gait(0, 2, 0), -6);
        x.set(0, 1, 0x00000000ffffffffL);
        Edge.due("step -1", x.gait(0, 2, 0), -6);
    }

    private static void gaitRefused() {
        Edge.says("-1;");
        for (int s : new int[] {-1, 8, MIN, MAX}) {
            Edge.refused(-1, x -> x.gait(s, 1, 0));
        }
        Edge.says("-2;");
        Edge.refused(-2, x -> x.gait(2, 1, 0));
        Edge.says("-3;");
        Edge.refused(-3, x -> x.gait(3, 1, 0));
        Edge.says("-4 n;");
        Edge.refused(-4, x -> x.gait(0, -1, 0));
        Edge.refused(-4, x -> x.gait(0, MIN, 0));
        Edge.says("-5 fewer elements;");
        Edge.refused(-5, x -> x.gait(0, 11, 0));
        Edge.refused(-5, x -> x.gait(1, 4, 0));
        Edge.refused(-5, x -> x.gait(6, 1, 0));
        Edge.refused(-5, x -> x.gait(0, MAX, 0));
        Edge.says("-6 n not 1 to 8, elements not 0 to 3, AT A WALL;");
        Edge.refused(-6, x -> x.gait(0, 0, 0));
        Edge.refused(-6, x -> x.gait(6, 0, 0));
        Edge.refused(-6, x -> x.gait(4, 9, 0));
        Edge.refused(-6, x -> x.gait(0, 10, 0));
        Edge.refused(-6, x -> x.gait(1, 1, 0));
        Edge.refused(-6, x -> x.gait(1, 3, 0));
        for (int wall : new int[] {-1, 3, MIN, MAX}) {
            Edge.refused(-6, x -> x.gait(0, 1, wall));
        }
        for (int step : new int[] {-1, 4, MIN, MAX}) {
            Edge.in(() -> {
                AsTheLastHeMet x = Worlds.usual();
                x.set(0, 7, step);
                return x;
            });
            Edge.refused(-6, x -> x.gait(0, 8, 0));
            Edge.answers(3, x -> x.gait(0, 7, 0));
        }
        Edge.says("-7.");
        Edge.in(Worlds::full);
        Edge.refused(-7, x -> x.gait(0, 8, 0));
        Edge.terms(ORDER);
        Edge.refused(-5, x -> x.gait(0, 9, 0));
        Edge.refused(-6, x -> x.gait(0, 0, 0));
        Edge.refused(-6, x -> x.gait(0, 1, 3));
        Edge.in(Worlds::usual);
        Edge.refused(-1, x -> x.gait(8, -1, 3));
        Edge.refused(-2, x -> x.gait(2, -1, 3));
        Edge.refused(-3, x -> x.gait(3, -1, 3));
        Edge.refused(-4, x -> x.gait(0, -1, 3));
        Edge.refused(-5, x -> x.gait(0, 11, 3));
        Edge.refused(-5, x -> x.gait(1, 4, 0));
    }

    private static void gaitOf() {
        Edge.promise(10);
        Edge.says("Of a GAIT: how many STEPS (what NONE), AT A WALL (-2), a STEP (its number).");
        Edge.leaves(2, x -> x.gaitOf(0, -1));
        Edge.leaves(0, x -> x.gaitOf(0, -2));
        Edge.leaves(2, x -> x.gaitOf(2, -2));
        Edge.leaves(0, x -> x.gaitOf(0, 0));
        Edge.leaves(1, x -> x.gaitOf(0, 1));
        Edge.leaves(3, x -> x.gaitOf(1, 2));
        Edge.in(Worlds::full);
        Edge.leaves(1, x -> x.gaitOf(0, -1));
        Edge.leaves(8, x -> x.gaitOf(7, -1));
        Edge.leaves(3, x -> x.gaitOf(7, 7));
        Edge.says("-15: no such one, another what (counted as -5).");
        Edge.refused(-15, x -> x.gaitOf(0, 1));
        Edge.refused(-15, x -> x.gaitOf(7, 8));
        Edge.refused(-15, x -> x.gaitOf(8, 0));
        Edge.in(Worlds::usual);
        for (int what : new int[] {-3, 2, 8, 16, MIN, MAX}) {
            Edge.refused(-15, x -> x.gaitOf(0, what));
        }
        for (int gait : new int[] {-1, 3, 8, MIN, MAX}) {
            Edge.refused(-15, x -> x.gaitOf(gait, -1));
            Edge.refused(-15, x -> x.gaitOf(gait, -2));
            Edge.refused(-15, x -> x.gaitOf(gait, 0));
        }
    }

    private static void walker() {
        Edge.promise(11);
        Edge.says("A WALKER: the number.");
        Edge.answers(3, x -> x.walker(0, 0, 0, 0, 0));
        Edge.answers(3, x -> x.walker(6, 47, 3, 2, 9));
        Edge.terms("WALKERS have numbers, from 0 on, 6 at most");
        AsTheLastHeMet x = Check.told("gait 0 s");
        for (int w = 0; w < 6; w++) {
            Edge.due("walker", x.walker(w, 48, w % 4, 0, w), w);
        }
        Edge.due("how many", x.status(1), 6);
        Edge.due("a seventh", x.walker(0, 48, 0, 0, 0), -7);
        Edge.terms("how many STEPS of it are done (DONE, 0 at first), TURNED (0 or 1; 0 at first");
        // One who comes where another went begins anew, whatever that one had done.
        AsTheLastHeMet y = Check.told("gait 0 sss;walker 1 3 0 0 0;walker 4 3 0 0 0;beat 2");
        Edge.due("DONE of him who was there", y.walkerOf(1, 4), 2);
        Edge.due("TURNED of him who was there", y.walkerOf(1, 5), 1);
        y.goes();
        y.walker(0, 9, 0, 0, 0);
        Edge.due("DONE", y.walkerOf(1, 4), 0);
        Edge.due("TURNED", y.walkerOf(1, 5), 0);
    }

    private static void walkerRefused() {
        Edge.says("-1 KIND, GAIT;");
        for (int kind : new int[] {-1, 7, MIN, MAX}) {
            Edge.refused(-1, x -> x.walker(kind, 0, 0, 0, 0));
        }
        for (int gait : new int[] {-1, 3, 8, MIN, MAX}) {
            Edge.refused(-1, x -> x.walker(0, 0, 0, gait, 0));
        }
        Edge.says("-6 also in a WALL;");
        for (int place : new int[] {-1, 49, 64, MIN, MAX, 10, 48}) {
            Edge.refused(-6, x -> x.walker(0, place, 0, 0, 0));
        }
        for (int way : new int[] {-1, 4, MIN, MAX}) {
            Edge.refused(-6, x -> x.walker(0, 0, way, 0, 0));
        }
        for (int a : new int[] {-1, 10, MIN, MAX}) {
            Edge.refused(-6, x -> x.walker(0, 0, 0, 0, a));
        }
        Edge.says("-7.");
        Edge.in(Worlds::full);
        Edge.refused(-7, x -> x.walker(0, 0, 0, 0, 0));
        Edge.terms(ORDER);
        Edge.refused(-1, x -> x.walker(7, 0, 0, 0, 0));
        Edge.refused(-1, x -> x.walker(0, 0, 0, 8, 0));
        Edge.refused(-6, x -> x.walker(0, 49, 0, 0, 0));
        Edge.refused(-6, x -> x.walker(0, 0, 4, 0, 0));
        Edge.refused(-6, x -> x.walker(0, 0, 0, 0, 10));
        Edge.in(Worlds::usual);
        Edge.refused(-1, x -> x.walker(7, 10, 4, 0, 10));
        Edge.refused(-1, x -> x.walker(0, -1, 4, 3, 10));
    }

    private static void walkerOf() {
        Edge.promise(12);
        Edge.says("Of a WALKER: 0 KIND, 1 PLACE, 2 WAY, 3 GAIT, 4 DONE, 5 TURNED, 6 a.");
        int[] mirror = {4, 8, 2, 1, 2, 0, 5};
        int[] loud = {5, 24, 0, 2, 0, 0, 9};
        for (int what = 0; what < 7; what++) {
            int asked = what;
            Edge.leaves(mirror[what], x -> x.walkerOf(1, asked));
            Edge.leaves(loud[what], x -> x.walkerOf(2, asked));
        }
        Edge.says("-5: no such one, another what.");
        for (int what : new int[] {-1, 7, MIN, MAX}) {
            Edge.refused(-5, x -> x.walkerOf(0, what));
        }
        for (int walker : new int[] {-1, 3, 6, MIN, MAX}) {
            Edge.refused(-5, x -> x.walkerOf(walker, 0));
        }
        Edge.in(Worlds::full);
        Edge.leaves(5, x -> x.walkerOf(5, 3));
        Edge.refused(-5, x -> x.walkerOf(6, 3));
    }

    private static void wall() {
        Edge.promise(13);
        Edge.says("A PLACE is a WALL, or not: 1; 0 if it was so.");
        AsTheLastHeMet x = new AsTheLastHeMet();
        for (int place = 0; place < 49; place++) {
            Edge.due("not a wall, as it was", x.wall(place, false), 0);
            Edge.due("a wall", x.wall(place, true), 1);
            Edge.due("a wall, as it was", x.wall(place, true), 0);
            Edge.due("walls", x.status(2), place + 1);
        }
        for (int place = 48; place >= 0; place--) {
            Edge.due("no wall", x.wall(place, false), 1);
            Edge.due("no wall, as it was", x.wall(place, false), 0);
            Edge.due("walls", x.status(2), place);
        }
        Edge.says("-6 also if it is to be one where somebody stands.");
        Edge.refused(-6, y -> y.wall(24, true));
        Edge.refused(-6, y -> y.wall(8, true));
        Edge.leaves(0, y -> y.wall(24, false));
        Edge.in(Worlds::full);
        Edge.refused(-6, y -> y.wall(20, true));
        // Where he stood, a wall may be; where he is now, none.
        Edge.in("gait 0 f;walker 0 0 1 0 0;beat 1");
        Edge.answers(1, y -> y.wall(0, true));
        Edge.refused(-6, y -> y.wall(1, true));
        Edge.in(Worlds::usual);
        Edge.terms("A PLACE outside is WRONG for wall().");
        for (int place : new int[] {-1, 49, 63, 64, MIN, MAX}) {
            Edge.refused(-6, y -> y.wall(place, true));
            Edge.refused(-6, y -> y.wall(place, false));
        }
    }

    private static void isWall() {
        Edge.promise(14);
        Edge.says("Whether a PLACE is a WALL: 1, 0.");
        for (int place = 0; place < 49; place++) {
            int one = place;
            Edge.leaves(place == 10 || place == 40 || place == 48 ? 1 : 0, x -> x.isWall(one));
        }
        Edge.says("-5.");
        for (int place : new int[] {-1, 49, 63, 64, 64 + 10, 10 - 64, MIN, MAX}) {
            Edge.refused(-5, x -> x.isWall(place));
        }
    }

    private static void streets() {
        Edge.promise(15);
        Edge.says("STREETS by the ROW in SHELF s: how many ITEMS.");
        Edge.answers(1, x -> x.streets(5));
        Edge.in(AsTheLastHeMet::new);
        Edge.told(1, "wall 0");
        Edge.told(1, "open 48");
        // 23 items are the most that 160 elements hold.
        AsTheLastHeMet x = Edge.told(23, "wall 1;".repeat(22) + "wall 2");
        Edge.due("walls", x.status(2), 2);
        x = Edge.told(8, "gait 0 s;gait 0 s;gait 0 s;gait 0 s;gait 0 s;gait 0 s;gait 0 s;gait 2 ssssssss");
        Edge.due("gaits", x.status(0), 8);
        x = Edge.told(7, "gait 0 s" + ";walker 0 0 0 0 0".repeat(6));
        Edge.due("walkers", x.status(1), 6);
        Edge.terms("Elements of a ROW of longs count by their lowest 32 bits wherever a ROW tells something.");
        AsTheLastHeMet y = new AsTheLastHeMet();
        Check.write(y, 0, 3, "wall 7");
        for (int i = 0; i < 6; i++) {
            y.set(0, i, y.element(0, i) | 0x7654321L << 32);
        }
        Edge.due("streets of longs", y.streets(0), 1);
        Edge.due("wall 7", y.isWall(7), 1);
        Edge.due("the row stays", y.element(0, 0), 'w' | 0x7654321L << 32);
    }

    private static void streetsOfItems() {
        Edge.terms("gait W X (AT A WALL, the STEPS: 1 to 8 letters f, l, r, s for 0 to 3)");
        Edge.in("wall 9");
        AsTheLastHeMet x = Edge.told(3, "gait 0 f;gait 1 slrf;gait 2 ssssffff");
        int[][] gaits = {{0, 1, 0}, {1, 4, 3, 1, 2, 0}, {2, 8, 3, 3, 3, 3, 0, 0, 0, 0}};
        for (int gait = 0; gait < 3; gait++) {
            for (int i = 0; i < gaits[gait].length; i++) {
                Edge.due("gait " + gait, x.gaitOf(gait, i - 2), gaits[gait][i]);
            }
        }
        Edge.terms("wall P; open P;");
        x = Edge.told(4, "wall 0;wall 48;open 9;open 9");
        Edge.due("wall 0", x.isWall(0), 1);
        Edge.due("wall 48", x.isWall(48), 1);
        Edge.due("open 9", x.isWall(9), 0);
        Edge.due("walls", x.status(2), 2);
        Edge.terms("walker K P W G A (KIND, PLACE, WAY, GAIT, a)");
        x = Edge.told(4, "gait 0 s;gait 0 s;walker 0 0 0 0 0;walker 6 48 3 1 9");
        int[] first = {0, 0, 0, 0, 0, 0, 0};
        int[] second = {6, 48, 3, 1, 0, 0, 9};
        for (int what = 0; what < 7; what++) {
            Edge.due("the first", x.walkerOf(0, what), first[what]);
            Edge.due("the second", x.walkerOf(1, what), second[what]);
        }
        Edge.terms("beat N (1 to 99 BEATS in truth)");
        Edge.due("beats", Edge.told(1, "beat 1").status(3), 1);
        Edge.due("beats", Edge.told(1, "beat 99").status(3), 99);
        Edge.due("beats", Edge.told(2, "beat 99;beat 99").status(3), 198);
        x = Edge.told(4, "gait 0 s;walker 0 0 0 0 0;walker 0 0 0 0 0;beat 9");
        Edge.due("met", x.status(4), 9);
        Edge.due("DONE of one step", x.walkerOf(0, 4), 0);
        Edge.terms("Numbers of a text may begin with 0.");
        x = Edge.told(5, "gait 02 f;wall 00;open 09;walker 06 08 03 00 09;beat 01");
        Edge.due("at a wall", x.gaitOf(0, -2), 2);
        Edge.due("kind", x.walkerOf(0, 0), 6);
        Edge.due("place behind a beat", x.walkerOf(0, 1), 7);
        Edge.due("a", x.walkerOf(0, 6), 9);
        Edge.due("beats", x.status(3), 1);
    }

    private static void streetsTellAllOrNothing() {
        Edge.terms("All is told over what there is, or nothing");
        Edge.in(Worlds::usual);
        AsTheLastHeMet x = Edge.told(5, "gait 1 lf;wall 0;open 10;walker 2 10 1 3 4;beat 3");
        Edge.due("gaits", x.status(0), 4);
        Edge.due("walkers", x.status(1), 4);
        Edge.due("walls", x.status(2), 3);
        Edge.due("beats", x.status(3), 5);
        // Each item, and all of them, is undone if what follows is at fault.
        String[] items = {"gait 1 lf", "wall 0", "open 10", "walker 2 47 1 0 4", "beat 50", "open 48;walker 0 48 0 0 0",
            "gait 1 lf;wall 0;open 10;walker 2 47 1 3 4;beat 99"};
        for (String item : items) {
            Edge.faulty(item.length() + 1, item + ";");
            Edge.faulty(item.length(), item + "x");
            Edge.faulty(item.length() + 6, item + ";wall 49");
            Edge.faulty(item.length() + 6, item + ";beat 00");
        }
        Edge.in(Worlds::full);
        Edge.faulty(8, "beat 30;gait 0 s");
        Edge.faulty(15, "wall 0;beat 30;walker 0 0 0 0 0");
    }

    private static void streetsRefused() {
        Edge.in(Worlds::usual);
        Edge.says("-1;");
        for (int s : new int[] {-1, 8, MIN, MAX}) {
            Edge.refused(-1, x -> x.streets(s));
        }
        Edge.says("-2;");
        Edge.refused(-2, x -> x.streets(2));
        Edge.says("-3;");
        Edge.refused(-3, x -> x.streets(3));
        Edge.says("-6 a FAULT.");
        Edge.refused(-6, x -> x.streets(7));
        Edge.faulty(0, "");
        Edge.faulty(160, "beat 10;".repeat(20));
    }

    private static void fault() {
        Edge.promise(16);
        Edge.says("NONE: there was none, or none yet.");
        Edge.in(AsTheLastHeMet::new);
        Edge.leaves(-1, x -> x.fault());
        Edge.in(Worlds::usual);
        Edge.leaves(3, x -> x.fault());
        Edge.leads(-1, x -> x.streets(5), x -> x.fault());
        Edge.says("The FAULT of the latest streets() that came to a ROW;");
        AsTheLastHeMet x = Worlds.usual();
        for (int s : new int[] {-1, 8, 2, 3}) {
            x.streets(s);
            Edge.due("fault", x.fault(), 3);
        }
        x.streets(5);
        for (int s : new int[] {-1, 8, 2, 3}) {
            x.streets(s);
            Edge.due("fault", x.fault(), -1);
        }
        x.streets(6);
        Edge.due("fault of an empty row", x.fault(), 0);
    }

    private static void faultOfText() {
        String text = "gait 2 flrs;wall 12;open 34;walker 6 48 3 0 9;beat 10";
        List<String> whole = List.of("gait 2 f", "gait 2 fl", "gait 2 flr", "gait 2 flrs",
                "gait 2 flrs;wall 1", "gait 2 flrs;wall 12", "gait 2 flrs;wall 12;open 3", "gait 2 flrs;wall 12;open 34",
                "gait 2 flrs;wall 12;open 34;walker 6 48 3 0 9",
                "gait 2 flrs;wall 12;open 34;walker 6 48 3 0 9;beat 1", text);
        Edge.in(AsTheLastHeMet::new);
        Edge.terms("(the number of elements, if it ends too early)");
        for (int end = 0; end <= text.length(); end++) {
            String begun = text.substring(0, end);
            if (whole.contains(begun)) {
                Edge.told(begun.split(";").length, begun);
            } else {
                Edge.faulty(end, begun);
            }
        }
        Edge.terms("the first place at which an element can't stand as such texts go on");
        for (int i = 0; i < text.length(); i++) {
            for (String sign : new String[] {"x", "F", "-", ",", ":", "/", "\0", "\u007f"}) {
                Edge.faulty(i, text.substring(0, i) + sign + text.substring(i + 1));
            }
            if (text.charAt(i) >= 'a') {
                Edge.faulty(i, text.substring(0, i) + "7" + text.substring(i + 1));
            }
        }
        Edge.faulty(text.length(), text + "x");
        Edge.faulty(text.length(), text + " ");
        Edge.faulty(0, ";" + text);
        Edge.faulty(12, text.replace(";", ";;"));
        Edge.faulty(12, text.replace(";", "; "));
        Edge.faulty(11, text.replace(";", " ;"));
        Edge.terms("One blank between words, NUMBERS (1 or 2 digits) and the STEPS.");
        for (int i = 0; i < text.length(); i++) {
            if (text.charAt(i) == ' ') {
                Edge.faulty(i + 1, text.substring(0, i) + " " + text.substring(i));
            }
        }
        Edge.faulty(4, "gait2 f");
        Edge.faulty(6, "gait 2f");
        Edge.faulty(4, "wall12");
        Edge.faulty(6, "walker6 48 3 0 9");
        Edge.faulty(7, "walker 648 3 0 9");
        Edge.faulty(23, "gait 2 f;walker 6 48 3 09");
        Edge.faulty(4, "beat10");
        Edge.in("gait 0 f");
        Edge.faulty(11, "walker 6 483 0 9");
        Edge.faulty(12, "walker 6 48 30 9");
        Edge.faulty(14, "walker 6 48 3 09");
        Edge.terms("STREETS are read from a ROW of letters");
        Edge.in(AsTheLastHeMet::new);
        for (int sort = 0; sort < 4; sort++) {
            for (long more : new long[] {1L << 8, 1L << 16, 1L << 32}) {
                AsTheLastHeMet x = new AsTheLastHeMet();
                Check.write(x, 0, sort, "wall 7");
                x.set(0, 2, 'l' + more);
                // What is more than a letter's bits is dropped with what the row doesn't keep, else it is no letter.
                boolean kept = more == 1L << 8 && sort > 0 || more == 1L << 16 && sort > 1;
                Edge.due("streets", x.streets(0), kept ? -6 : 1);
                Edge.due("fault", x.fault(), kept ? 2 : -1);
            }
        }
    }

    /** A number that may not be is a fault at its first digit, at the end of the text and ahead of more. */
    private static void faultyNumber(String before, String number, String behind) {
        Edge.faulty(before.length(), before + number);
        Edge.faulty(before.length(), before + number + behind);
        Edge.faulty(before.length(), before + number + "x");
        if (number.length() == 1) {
            Edge.faulty(before.length(), before + "0" + number + behind);
        }
    }

    private static void faultOfNumbers() {
        Edge.in("gait 0 f;gait 0 f");
        Edge.terms("of a NUMBER that may not be the place of its first digit");
        for (String number : new String[] {"3", "9", "10", "99"}) {
            faultyNumber("gait ", number, " f");
        }
        for (String number : new String[] {"49", "50", "99"}) {
            faultyNumber("wall ", number, ";wall 0");
            faultyNumber("open ", number, ";wall 0");
            faultyNumber("walker 0 ", number, " 0 0 0");
        }
        for (String number : new String[] {"7", "10", "99"}) {
            faultyNumber("walker ", number, " 0 0 0 0");
        }
        for (String number : new String[] {"4", "10", "99"}) {
            faultyNumber("walker 0 0 ", number, " 0 0");
        }
        for (String number : new String[] {"2", "8", "10", "99"}) {
            faultyNumber("walker 0 0 0 ", number, " 0");
        }
        for (String number : new String[] {"10", "99"}) {
            faultyNumber("walker 0 0 0 0 ", number, ";wall 0");
        }
        faultyNumber("beat ", "0", ";wall 0");
        faultyNumber("wall 0;walker 6 48 3 1 9;beat ", "0", ";beat 1");
        // The first that may not be, of several.
        Edge.faulty(7, "walker 7 49 4 2 10");
        Edge.faulty(9, "walker 6 49 4 2 10");
        Edge.faulty(12, "walker 6 48 4 2 10");
        Edge.faulty(14, "walker 6 48 3 2 10");
        Edge.faulty(16, "walker 6 48 3 1 10");
        Edge.told(1, "walker 6 48 3 1 9");
        Edge.in(AsTheLastHeMet::new);
        faultyNumber("walker 0 0 0 ", "0", " 0");
        Edge.terms("NUMBERS (1 or 2 digits)");
        for (String before : new String[] {"gait ", "wall ", "open ", "walker ", "walker 0 ", "walker 0 0 ", "beat "}) {
            Edge.faulty(before.length(), before);
            Edge.faulty(before.length(), before + ";");
            Edge.faulty(before.length(), before + "-1");
            Edge.faulty(before.length() + 2, before + "010");
            Edge.faulty(before.length() + 2, before + "01x");
            Edge.faulty(before.length() + 1, before + "1x");
        }
        Edge.faulty(7, "wall 480");
        Edge.faulty(5, "wall 490");
        Edge.faulty(7, "beat 100");
        Edge.faulty(7, "beat 990");
        Edge.faulty(5, "beat 001");
        Edge.told(1, "wall 48");
        Edge.told(1, "beat 99");
    }

    private static void faultOfSteps() {
        Edge.terms("of STEPS too long the letter that is one too many");
        Edge.told(1, "gait 0 flrsflrs");
        for (String more : new String[] {"f", "l", "r", "s", "ff", "x", " ", "f;wall 0"}) {
            Edge.faulty(15, "gait 0 flrsflrs" + more);
        }
        Edge.faulty(24, "gait 0 f;gait 0 ffffffffs");
        Edge.told(2, "gait 0 f;gait 0 ffffffff");
        Edge.terms("1 to 8 letters");
        Edge.told(1, "gait 0 s");
        for (String none : new String[] {"", ";", ";wall 0", " f", "x", "F", "0"}) {
            Edge.faulty(7, "gait 0 " + none);
        }
    }

    private static void faultAsThingsStand() {
        Edge.in(Worlds::usual);
        Edge.terms("a wall where somebody stands, a walker in a WALL: P");
        // Walkers stand at 1, 8 and 24 there, walls at 10, 40 and 48.
        faultyNumber("wall ", "1", ";open 1");
        faultyNumber("wall ", "24", ";wall 0");
        faultyNumber("wall ", "8", ";wall 0");
        faultyNumber("walker 0 ", "10", " 0 0 0");
        faultyNumber("walker 0 ", "48", " 9 9 9");
        Edge.told(1, "walker 0 24 0 0 0");
        Edge.told(1, "wall 10");
        Edge.told(1, "open 24");
        // As things stand there in the text.
        faultyNumber("wall 0;walker 0 ", "0", " 0 0 0");
        faultyNumber("walker 0 0 0 0 0;wall ", "0", ";wall 2");
        faultyNumber("beat 2;wall ", "25", ";wall 2");
        Edge.told(2, "beat 2;wall 24");
        Edge.told(2, "open 10;walker 0 10 0 0 0");
        faultyNumber("open 10;walker 0 10 0 0 0;wall ", "10", ";wall 2");
    }

    private static void faultOfRoom() {
        Edge.in(Worlds::full);
        Edge.terms("what there is no room for can't stand: its word");
        Edge.faulty(0, "gait 0 f");
        Edge.faulty(0, "walker 0 0 0 0 0");
        Edge.faulty(7, "wall 0;gait 0 f");
        Edge.faulty(7, "wall 0;walker 0 0 0 0 0;wall 1");
        Edge.told(3, "wall 0;open 0;beat 1");
        Edge.terms("Whether there is room for a word is asked when its letters stand whole: until then the first element "
                + "that is not as it is the FAULT, or the number of elements.");
        for (String word : new String[] {"gait", "walker"}) {
            for (int letters = 0; letters < word.length(); letters++) {
                Edge.faulty(letters, word.substring(0, letters));
                Edge.faulty(letters, word.substring(0, letters) + "x");
                Edge.faulty(7 + letters, "wall 0;" + word.substring(0, letters) + " ");
            }
            Edge.faulty(0, word);
            Edge.faulty(0, word + "x");
            Edge.faulty(0, word + "  ");
            Edge.faulty(7, "wall 0;" + word);
        }
        Edge.faulty(4, "walls 0");
        // A text that was told ahead of it is of no help to one whose first word has no room.
        Edge.in("gait 0 s" + ";gait 0 s".repeat(7) + ";walker 0 0 0 0 0".repeat(4));
        Edge.faulty(0, "gait 0 s");
        Edge.faulty(0, "gait");
        // The text itself takes the last room.
        Edge.in("gait 0 s;walker 0 0 0 0 0");
        Edge.faulty(7 * 9, "gait 0 s;".repeat(7) + "gait 0 s");
        Edge.faulty(5 * 17, "walker 0 0 0 0 0;".repeat(5) + "walker");
        Edge.told(7, "gait 0 s;".repeat(6) + "gait 0 s");
        Edge.told(5, "walker 0 0 0 0 0;".repeat(4) + "walker 0 0 0 0 0");
    }
}
