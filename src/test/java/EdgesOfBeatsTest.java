/** The edges that the terms name of a beat: steps at the edge of the ground, turns, meetings, kinds, loud ones. */
public final class EdgesOfBeatsTest {
    private static final int[] ROWS = {-1, 0, 1, 0};
    private static final int[] COLUMNS = {0, 1, 0, -1};
    /** Quarters to the right of AT A WALL 0, 1 and 2. */
    private static final int[] TURNS = {3, 1, 2};

    private EdgesOfBeatsTest() {
    }

    public static void main(String[] args) {
        Edge.promise(Document.TERMS);
        stepOn();
        stepAgainstWalls();
        stepsInTheirOrder();
        turns();
        turnedTurns();
        meetingsOfMany();
        meetingsTakeInARing();
        meetingsAllAtOnce();
        kindsInPairs();
        fickleOnes();
        mirrors();
        loudOnesAreHeardBeside();
        loudOnesAreNotHeard();
        severalLoudOnes();
        Edge.close();
    }

    private static AsTheLastHeMet one(String steps, int wall, int place, int way) {
        return Check.told("gait " + wall + " " + steps + ";walker 0 " + place + " " + way + " 0 0");
    }

    private static void willBe(AsTheLastHeMet x, int n, int walker, int... how) {
        for (int i = 0; i < how.length; i++) {
            Edge.due("at(" + n + ", " + walker + ", " + i + ")", x.at(n, walker, i), how[i]);
        }
    }

    private static void stepOn() {
        Edge.terms("on: to the next PLACE that WAY, if there is one and it is no WALL; else, instead, a turn");
        for (int place = 0; place < 49; place++) {
            for (int way = 0; way < 4; way++) {
                int row = place / 7 + ROWS[way];
                int column = place % 7 + COLUMNS[way];
                boolean is = row >= 0 && row < 7 && column >= 0 && column < 7;
                AsTheLastHeMet x = one("f", 2, place, way);
                willBe(x, 1, 0, is ? 7 * row + column : place, is ? way : (way + 2) % 4, 0, 0, 0);
                if (is) {
                    x.wall(7 * row + column, true);
                    willBe(x, 1, 0, place, (way + 2) % 4, 0, 0, 0);
                }
            }
        }
        Edge.terms("7 times the row and the column (rows from above, columns from the left)");
        willBe(one("f", 0, 6, 1), 1, 0, 6, 0);
        willBe(one("f", 0, 7, 3), 1, 0, 7, 2);
        willBe(one("f", 0, 0, 0), 1, 0, 0, 3);
        willBe(one("f", 0, 48, 2), 1, 0, 48, 1);
    }

    private static void stepAgainstWalls() {
        Edge.terms("a turn as the GAIT has it AT A WALL;");
        int[] edges = {3, 27, 45, 21};
        for (int way = 0; way < 4; way++) {
            for (int wall = 0; wall <= 2; wall++) {
                // In a corner, or with walls on all sides, he only ever turns.
                AsTheLastHeMet shut = one("f", wall, 24, way);
                for (int place : new int[] {17, 25, 31, 23}) {
                    shut.wall(place, true);
                }
                for (int n = 0; n <= 5; n++) {
                    willBe(shut, n, 0, 24, (way + n * TURNS[wall]) % 4);
                }
                willBe(one("f", wall, edges[way], way), 1, 0, edges[way], (way + TURNS[wall]) % 4);
            }
        }
        // The turn is the step: only in the next beat he goes on.
        willBe(one("f", 1, 6, 1), 1, 0, 6, 2);
        willBe(one("f", 1, 6, 1), 2, 0, 13, 2);
        Edge.terms("none where somebody stands");
        // Where somebody stands is no wall: he goes on there.
        AsTheLastHeMet there = Check.told("gait 0 f;gait 0 s;walker 1 8 1 0 0;walker 1 9 0 1 0");
        willBe(there, 1, 0, 9, 1);
        willBe(there, 2, 0, 10, 1);
    }

    private static void stepsInTheirOrder() {
        Edge.terms("(behind the last one the first)");
        for (int steps = 1; steps <= 8; steps++) {
            // He stands, and goes on with the last step alone.
            AsTheLastHeMet x = one("sssssssf".substring(8 - steps), 0, 42, 0);
            for (int n = 0; n <= 2 * steps + 1; n++) {
                willBe(x, n, 0, 42 - 7 * (n / steps), 0, 0, n % steps, 0);
            }
        }
        Edge.terms("DONE is 1 more, 0 behind the last one.");
        AsTheLastHeMet x = one("slrsffsl", 1, 24, 0);
        for (int n = 0; n <= 17; n++) {
            Edge.due("DONE behind " + n, x.at(n, 0, 3), n % 8);
        }
        Edge.due("DONE behind 399", x.at(399, 0, 3), 7);
        Edge.due("DONE behind 400", x.at(400, 0, 3), 0);
        // A turn at a wall is a step done, too.
        willBe(one("fss", 0, 0, 0), 1, 0, 0, 3, 0, 1, 0);
    }

    private static void turns() {
        Edge.terms("WAYS: 0 up, 1 right, 2 down, 3 left.");
        for (int way = 0; way < 4; way++) {
            for (int n = 0; n <= 5; n++) {
                willBe(one("l", 0, 24, way), n, 0, 24, (way + 3 * n) % 4);
                willBe(one("r", 0, 24, way), n, 0, 24, (way + n) % 4);
                willBe(one("s", 0, 24, way), n, 0, 24, way);
            }
        }
    }

    /** A mirror who is turned, alone at a place with a way, and with a gait of one step. */
    private static AsTheLastHeMet turned(String step, int wall, int place, int way) {
        AsTheLastHeMet x = Check.told("gait 0 s;gait " + wall + " " + step + ";walker 4 " + place + " 0 1 0;walker 1 "
                + place + " " + way + " 0 0");
        // The mirror's own step may not lead him away before they meet.
        x.teach(0, 0);
        x.beat(1);
        x.goes();
        x.teach(0, 1);
        Edge.due("he is turned", x.walkerOf(0, 5), 1);
        Edge.due("his way", x.walkerOf(0, 2), way);
        return x;
    }

    private static void turnedTurns() {
        Edge.terms("turn left, turn right (TURNED: the other way about, AT A WALL, too); stand.");
        int[] edges = {3, 27, 45, 21};
        int[] others = {1, 3, 2};
        for (int way = 0; way < 4; way++) {
            willBe(turned("l", 0, 24, way), 1, 0, 24, (way + 1) % 4, 1, 0, 1);
            willBe(turned("r", 0, 24, way), 1, 0, 24, (way + 3) % 4, 1, 0, 1);
            willBe(turned("s", 0, 24, way), 1, 0, 24, way, 1, 0, 1);
            willBe(turned("f", 0, 24, way), 1, 0, 24 + 7 * ROWS[way] + COLUMNS[way], way, 1, 0, 1);
            for (int wall = 0; wall <= 2; wall++) {
                willBe(turned("f", wall, edges[way], way), 1, 0, edges[way], (way + others[wall]) % 4, 1, 0, 1);
            }
        }
    }

    private static AsTheLastHeMet standing(int kind, int... places) {
        AsTheLastHeMet x = new AsTheLastHeMet();
        for (int i = 0; i < 8; i++) {
            Worlds.gait(x, "ssssssss".substring(0, i + 1), 0);
        }
        for (int i = 0; i < places.length; i++) {
            x.walker(kind, places[i], i % 4, i, 0);
        }
        return x;
    }

    private static void meetingsOfMany() {
        Edge.terms("at each PLACE where two or more are");
        int[][] places = {{}, {5}, {5, 5}, {5, 5, 5}, {5, 5, 5, 5}, {5, 5, 5, 5, 5}, {5, 5, 5, 5, 5, 5}, {5, 6, 7, 8, 9, 10},
            {5, 5, 6}, {5, 5, 6, 6}, {0, 48, 0, 48}, {5, 6, 7, 7, 6, 5}, {5, 6, 5, 6, 5, 6}, {5, 5, 5, 5, 6, 6}};
        int[] many = {0, 0, 1, 1, 1, 1, 1, 0, 1, 2, 2, 3, 2, 2};
        for (int i = 0; i < places.length; i++) {
            for (int kind : new int[] {0, 2, 3}) {
                AsTheLastHeMet x = standing(kind, places[i]);
                Edge.due("none yet", x.meetings(0), 0);
                Edge.due("meetings of a beat", x.meetings(1), many[i]);
                Edge.due("meetings of seven beats", x.meetings(7), 7 * many[i]);
                Edge.due("in truth", x.beat(3), 3 * many[i]);
                Edge.due("met", x.status(4), 3 * many[i]);
            }
        }
    }

    private static void meetingsTakeInARing() {
        Edge.terms("each of them, by numbers, has the next one there behind him (the last the first) to take from");
        for (int many = 2; many <= 6; many++) {
            int[] places = new int[many];
            AsTheLastHeMet x = standing(0, places);
            for (int w = 0; w < many; w++) {
                int from = (w + 1) % many;
                willBe(x, 1, w, 0, from % 4, from, from == 0 ? 0 : 1, 0);
            }
        }
        // The next one there, not the next by number alone.
        AsTheLastHeMet two = standing(0, 3, 9, 3, 9, 3, 9);
        int[] from = {2, 3, 4, 5, 0, 1};
        for (int w = 0; w < 6; w++) {
            willBe(two, 1, w, w % 2 == 0 ? 3 : 9, from[w] % 4, from[w], from[w] == 0 ? 0 : 1, 0);
        }
        AsTheLastHeMet ends = standing(0, 3, 10, 20, 30, 40, 3);
        willBe(ends, 1, 0, 3, 1, 5, 1, 0);
        willBe(ends, 1, 5, 3, 0, 0, 0, 0);
        for (int w = 1; w < 5; w++) {
            willBe(ends, 1, w, 10 * w, w % 4, w, 1, 0);
        }
    }

    private static void meetingsAllAtOnce() {
        Edge.terms("all at once: if he TAKES (from that one) and that one GIVES, his GAIT, DONE, WAY and "
                + "TURNED become what that one's were ahead of the MEETING");
        // Two swap all of these again and again; three and six go round.
        AsTheLastHeMet two = Check.told("gait 0 sss;gait 0 sssss;walker 0 5 1 0 0;walker 0 5 3 1 0");
        for (int n = 0; n <= 16; n++) {
            willBe(two, n, n % 2, 5, 1, 0, n % 3, 0);
            willBe(two, n, 1 - n % 2, 5, 3, 1, n % 5, 0);
        }
        AsTheLastHeMet six = standing(0, 7, 7, 7, 7, 7, 7);
        for (int n = 0; n <= 13; n++) {
            for (int w = 0; w < 6; w++) {
                int gait = (w + n) % 6;
                willBe(six, n, w, 7, gait % 4, gait, n % (gait + 1), 0);
            }
        }
        // Ahead of the meeting, but behind the step: who comes goes on from there as the other, in his way.
        AsTheLastHeMet come = Check.told("gait 0 fs;gait 0 lff;walker 0 8 1 0 0;walker 0 9 0 1 0");
        willBe(come, 1, 0, 9, 3, 1, 1, 0);
        willBe(come, 1, 1, 9, 1, 0, 1, 0);
        willBe(come, 2, 0, 8, 3, 1, 2, 0);
        willBe(come, 2, 1, 9, 1, 0, 0, 0);
        Edge.terms("MEETING: then, at each PLACE");
        // Who change places pass one another: nobody meets.
        AsTheLastHeMet pass = Check.told("gait 0 f;gait 0 ff;walker 0 8 1 0 0;walker 0 9 3 1 0");
        willBe(pass, 1, 0, 9, 1, 0, 0, 0);
        willBe(pass, 1, 1, 8, 3, 1, 1, 0);
        Edge.due("no meeting", pass.meetings(1), 0);
        // Who are at one place at first, and part, don't meet.
        AsTheLastHeMet part = Check.told("gait 0 f;gait 0 ff;walker 0 9 1 0 0;walker 0 9 3 1 0");
        willBe(part, 1, 0, 10, 1, 0, 0, 0);
        Edge.due("no meeting", part.meetings(1), 0);
    }

    private static boolean takes(int kind, int his, int other) {
        return kind == 0 || kind == 3 || kind == 4 || kind == 6 && other > his;
    }

    private static boolean gives(int kind) {
        return kind == 0 || kind == 1 || kind == 5;
    }

    private static void pairIs(int kind, int his, int other, int gait) {
        AsTheLastHeMet x = Check.told("gait 0 ss;gait 0 sss;gait 0 s;walker " + kind + " 9 1 " + his + " 0;walker " + other
                + " 9 2 " + gait + " 0");
        boolean is = takes(kind, his, gait) && gives(other);
        int taken = is ? gait : his;
        willBe(x, 1, 0, 9, is ? 2 : 1, taken, taken == 2 ? 0 : 1, is && kind == 4 ? 1 : 0);
        boolean isOther = takes(other, gait, his) && gives(kind);
        int takenThere = isOther ? his : gait;
        willBe(x, 1, 1, 9, isOther ? 1 : 2, takenThere, takenThere == 2 ? 0 : 1, isOther && other == 4 ? 1 : 0);
        Edge.due("they meet", x.meetings(1), 1);
    }

    private static void kindsInPairs() {
        Edge.terms("if he TAKES (from that one) and that one GIVES");
        for (int kind = 0; kind <= 6; kind++) {
            for (int other = 0; other <= 6; other++) {
                for (int his = 0; his <= 2; his++) {
                    for (int gait = 0; gait <= 2; gait++) {
                        pairIs(kind, his, other, gait);
                    }
                }
            }
        }
        // Of three, he in the middle doesn't give: the first has nothing to take, the last takes from the first.
        for (int silent : new int[] {2, 3, 4, 6}) {
            AsTheLastHeMet x = Check.told("gait 0 s;gait 0 s;gait 0 s;walker 0 9 1 2 0;walker " + silent
                    + " 9 2 1 0;walker 1 9 3 0 0");
            willBe(x, 1, 0, 9, 1, 2);
            Edge.due("one place", x.meetings(1), 1);
        }
    }

    private static void fickleOnes() {
        Edge.terms("takes only a GAIT of a higher number than his");
        AsTheLastHeMet x = standing(1, 9);
        x.walker(6, 9, 3, 0, 0);
        for (int his = 0; his < 8; his++) {
            for (int gait = 0; gait < 8; gait++) {
                x.teach(0, gait);
                x.teach(1, his);
                boolean is = gait > his;
                int taken = is ? gait : his;
                willBe(x, 1, 1, 9, is ? 0 : 3, taken, taken == 0 ? 0 : 1, 0);
            }
        }
    }

    private static void mirrors() {
        Edge.terms("MIRROR: as TAKER, but TURNED becomes the other than that one's.");
        AsTheLastHeMet x = Check.told("gait 0 s;gait 0 s;walker 4 9 1 0 0;walker 1 9 2 1 0");
        for (int n = 0; n <= 3; n++) {
            // From one who is not turned he is turned each time anew, not to and fro.
            willBe(x, n, 0, 9, n == 0 ? 1 : 2, n == 0 ? 0 : 1, 0, n == 0 ? 0 : 1);
        }
        x.beat(1);
        x.goes();
        Edge.due("alone he stays turned", x.at(400, 0, 4), 1);
        // He who is turned gives to nobody: a walker beside him, even there, is never turned.
        AsTheLastHeMet three = Check.told("gait 0 s;gait 0 s;walker 0 9 1 0 0;walker 4 9 1 0 0;walker 1 9 2 1 0");
        for (int n = 0; n <= 4; n++) {
            Edge.due("the mirror", three.at(n, 1, 4), n == 0 ? 0 : 1);
            Edge.due("the walker", three.at(n, 0, 4), 0);
        }
    }

    private static void loudOnesAreHeardBeside() {
        Edge.terms("all WALKERS at PLACES beside his (up, right, down, left; none of them LOUD)");
        for (int place = 0; place < 49; place++) {
            for (int other = 0; other < 49; other++) {
                boolean beside = false;
                for (int way = 0; way < 4; way++) {
                    int row = place / 7 + ROWS[way];
                    int column = place % 7 + COLUMNS[way];
                    beside |= row >= 0 && row < 7 && column >= 0 && column < 7 && other == 7 * row + column;
                }
                AsTheLastHeMet x = Check.told("gait 0 s;gait 0 ss;walker 5 " + place + " 2 1 0");
                x.walker(3, other, 3, 0, 0);
                boolean meets = place == other;
                Edge.due("gait", x.at(1, 1, 2), beside || meets ? 1 : 0);
                Edge.due("DONE", x.at(1, 1, 3), beside || meets ? 1 : 0);
                Edge.due("way", x.at(1, 1, 1), meets ? 2 : 3);
                Edge.due("meetings", x.meetings(1), meets ? 1 : 0);
            }
        }
        // He is heard from where he is behind his step, not from where he was, whatever wall or way is between.
        AsTheLastHeMet goes = Check.told("gait 0 f;gait 0 s;walker 5 8 1 0 0;walker 0 10 0 1 0;walker 0 7 0 1 0");
        Edge.due("beside where he comes", goes.at(1, 1, 2), 0);
        Edge.due("beside where he was", goes.at(1, 2, 2), 1);
        Edge.terms("take his GAIT, DONE and TURNED (a MIRROR the other one; their WAYS stay)");
        AsTheLastHeMet x = Check.told("gait 0 s;gait 0 sss;walker 5 24 2 1 0;walker 4 17 1 0 0;walker 3 25 3 0 0;"
                + "walker 6 31 0 0 0;walker 0 23 1 0 0");
        int[] places = {24, 17, 25, 31, 23};
        int[] ways = {2, 1, 3, 0, 1};
        for (int n = 1; n <= 4; n++) {
            for (int w = 0; w < 5; w++) {
                willBe(x, n, w, places[w], ways[w], 1, n % 3, w == 1 ? 1 : 0);
            }
        }
    }

    private static void loudOnesAreNotHeard() {
        Edge.terms("who TAKE (from him) and do not MEET anybody this BEAT");
        for (int kind = 0; kind <= 6; kind++) {
            for (int gait = 0; gait <= 2; gait++) {
                AsTheLastHeMet x = Check.told("gait 0 s;gait 0 s;gait 0 s;walker 5 24 0 1 0;walker " + kind + " 17 1 " + gait
                        + " 0");
                Edge.due("kind " + kind, x.at(1, 1, 2), takes(kind, gait, 1) ? 1 : gait);
                // One who meets somebody, though he takes nothing there, doesn't hear him; nor does that one.
                x.walker(3, 17, 2, 2, 0);
                Edge.due("a taker there", x.at(1, 2, 2), gives(kind) ? gait : 2);
                Edge.due("kind " + kind + ", with a taker", x.at(1, 1, 2), gait);
            }
        }
        // Who meets the loud one himself takes by the meeting, his way, too; the loud one is heard by others then.
        AsTheLastHeMet met = Check.told("gait 0 s;gait 0 s;walker 5 24 2 0 0;walker 0 24 1 1 0;walker 0 25 1 1 0");
        willBe(met, 1, 1, 24, 2, 0);
        willBe(met, 1, 2, 25, 1, 0);
        willBe(met, 1, 0, 24, 2, 0);
    }

    private static void severalLoudOnes() {
        Edge.terms("of several LOUD ones from whom they would of the first");
        for (int gait = 0; gait <= 4; gait++) {
            for (int kind : new int[] {0, 3, 4, 6}) {
                AsTheLastHeMet x = Check.told("gait 0 s;gait 0 s;gait 0 s;gait 0 s;gait 0 s;walker 5 17 0 2 0;"
                        + "walker 5 25 0 1 0;walker 5 31 0 4 0;walker 5 23 0 3 0");
                x.walker(kind, 24, 0, gait, 0);
                int first = kind != 6 || gait < 2 ? 2 : gait < 4 ? 4 : gait;
                Edge.due("kind " + kind, x.at(1, 4, 2), first);
                for (int w = 0; w < 4; w++) {
                    Edge.due("the loud ones keep theirs", x.at(1, w, 2), new int[] {2, 1, 4, 3}[w]);
                }
            }
        }
        // The first by numbers, not by where he is; he may have a higher number than who hears him.
        AsTheLastHeMet last = Check.told("gait 0 s;gait 0 s;gait 0 s;walker 0 24 0 0 0;walker 5 31 0 1 0;walker 5 17 0 2 0");
        Edge.due("of the first", last.at(1, 0, 2), 1);
        // Two loud ones beside one another keep theirs.
        AsTheLastHeMet two = Check.told("gait 0 s;gait 0 s;walker 5 24 0 0 0;walker 5 25 0 1 0");
        Edge.due("the one", two.at(400, 0, 2), 0);
        Edge.due("the other", two.at(400, 1, 2), 1);
    }
}
