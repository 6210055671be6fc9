/** The edges that promises 17 to 30 name: what comes of it, in thought. */
public final class EdgesOfThoughtTest {
    private static final int MIN = Integer.MIN_VALUE;
    private static final int MAX = Integer.MAX_VALUE;
    private static final String ORDER = "the first that fits, in this order";
    private static final int[] NO_BEATS = {-1, 401, MIN, MAX};
    private static final int[] NO_WALKERS = {-1, 3, 6, MIN, MAX};
    private static final int[] NO_GAITS = {-1, 3, 8, MIN, MAX};
    private static final int[] BEATS = {0, 1, 2, 7, 99, 100, 399, 400};

    private EdgesOfThoughtTest() {
    }

    public static void main(String[] args) {
        at();
        have();
        survives();
        lost();
        comes();
        meet();
        meetings();
        ring();
        ringRefused();
        alone();
        alike();
        hirePlaces();
        hireWalkers();
        hireBeats();
        hireRefused();
        fit();
        fitRefused();
        began();
        beganDone();
        beganRefused();
        thief();
        Edge.close(17, 30);
    }

    private static void at() {
        Edge.promise(17);
        Edge.says("Behind n BEATS (0 to 400): PLACE (what 0), WAY (1), GAIT (2), DONE (3), TURNED (4) of a WALKER.");
        int[] now = {8, 2, 1, 2, 0};
        for (int what = 0; what < 5; what++) {
            int asked = what;
            Edge.leaves(now[what], x -> x.at(0, 1, asked));
        }
        AsTheLastHeMet x = Worlds.lively();
        for (int n : BEATS) {
            AsTheLastHeMet then = Worlds.behind(Worlds.lively(), n);
            for (int walker = 0; walker < 5; walker++) {
                for (int what = 0; what < 5; what++) {
                    Edge.due("at(" + n + ", " + walker + ", " + what + ")", x.at(n, walker, what),
                            then.walkerOf(walker, what + 1));
                }
            }
        }
        Edge.terms("(in thought, from how all is now; nothing is changed;");
        Edge.leaves(Worlds.behind(Worlds.usual(), 400).walkerOf(1, 1), y -> y.at(400, 1, 0));
        Edge.says("-1;");
        for (int walker : NO_WALKERS) {
            Edge.refused(-1, y -> y.at(0, walker, 0));
        }
        Edge.says("-5 another what;");
        for (int what : new int[] {-1, 5, 6, MIN, MAX}) {
            Edge.refused(-5, y -> y.at(0, 0, what));
        }
        Edge.says("-6 n.");
        for (int n : NO_BEATS) {
            Edge.refused(-6, y -> y.at(n, 0, 0));
        }
        Edge.terms(ORDER);
        Edge.refused(-1, y -> y.at(401, 3, 5));
        Edge.refused(-1, y -> y.at(0, 3, 5));
        Edge.refused(-5, y -> y.at(401, 0, 5));
    }

    private static int havers(AsTheLastHeMet x, int gait) {
        int walkers = 0;
        for (int w = 0; w < x.status(1); w++) {
            walkers |= x.walkerOf(w, 3) == gait ? 1 << w : 0;
        }
        return walkers;
    }

    private static void have() {
        Edge.promise(18);
        Edge.says("HAVE (bits; n 0 to 400).");
        Edge.leaves(1, x -> x.have(0, 0));
        Edge.leaves(4, x -> x.have(400, 2));
        Edge.in(Worlds::full);
        Edge.leaves(32, x -> x.have(400, 5));
        Edge.leaves(0, x -> x.have(0, 7));
        Edge.in("gait 0 s" + ";walker 0 0 0 0 0".repeat(6));
        Edge.leaves(63, x -> x.have(0, 0));
        Edge.leaves(63, x -> x.have(400, 0));
        Edge.in("gait 0 s");
        Edge.leaves(0, x -> x.have(400, 0));
        AsTheLastHeMet x = Worlds.lively();
        for (int n : BEATS) {
            for (int gait = 0; gait < 4; gait++) {
                Edge.due("have(" + n + ", " + gait + ")", x.have(n, gait), havers(Worlds.behind(Worlds.lively(), n), gait));
            }
        }
        Edge.in(Worlds::usual);
        Edge.says("-1 GAIT;");
        for (int gait : NO_GAITS) {
            Edge.refused(-1, y -> y.have(0, gait));
        }
        Edge.says("-6.");
        for (int n : NO_BEATS) {
            Edge.refused(-6, y -> y.have(n, 0));
        }
        Edge.terms(ORDER);
        Edge.refused(-1, y -> y.have(401, 3));
    }

    private static int gaitsOf(AsTheLastHeMet x) {
        int gaits = 0;
        for (int w = 0; w < x.status(1); w++) {
            gaits |= 1 << x.walkerOf(w, 3);
        }
        return gaits;
    }

    private static void survives() {
        Edge.promise(19);
        Edge.says("SURVIVES (bits; n 0 to 400).");
        Edge.leaves(7, x -> x.survives(0));
        Edge.leaves(gaitsOf(Worlds.behind(Worlds.usual(), 400)), x -> x.survives(400));
        Edge.in(Worlds::full);
        Edge.leaves(63, x -> x.survives(0));
        Edge.leads(128 + 31, x -> x.teach(5, 7), x -> x.survives(400));
        Edge.in("gait 0 s");
        Edge.leaves(0, x -> x.survives(0));
        AsTheLastHeMet x = Worlds.lively();
        for (int n : BEATS) {
            Edge.due("survives(" + n + ")", x.survives(n), gaitsOf(Worlds.behind(Worlds.lively(), n)));
        }
        Edge.says("-6.");
        Edge.in(Worlds::usual);
        for (int n : NO_BEATS) {
            Edge.refused(-6, y -> y.survives(n));
        }
    }

    private static void lost() {
        Edge.promise(20);
        Edge.terms("LOST of a GAIT: the first BEAT behind which nobody has it (0: now).");
        Edge.in(Worlds::full);
        Edge.leaves(0, x -> x.lost(6));
        Edge.leaves(0, x -> x.lost(7));
        Edge.in("gait 0 s");
        Edge.leaves(0, x -> x.lost(0));
        // The one who has it meets a keeper in the first beat.
        Edge.in("gait 0 s;gait 0 s;walker 0 5 0 1 0;walker 1 5 0 0 0");
        Edge.leaves(1, x -> x.lost(1));
        Edge.in(Worlds::last);
        Edge.leaves(400, x -> x.lost(1));
        Edge.says("NONE: not in 400.");
        Edge.leaves(-1, x -> x.lost(0));
        Edge.in(Worlds::late);
        Edge.leaves(-1, x -> x.lost(1));
        Edge.in(Worlds::usual);
        Edge.says("-11 (counted as -1).");
        for (int gait : NO_GAITS) {
            Edge.refused(-11, x -> x.lost(gait));
        }
    }

    private static void comes() {
        Edge.promise(21);
        Edge.terms("COMES of a GAIT to somebody: the first BEAT behind which he has it (0: now).");
        Edge.leaves(0, x -> x.comes(0, 0));
        Edge.in("gait 0 s;gait 0 s;walker 0 5 0 1 0;walker 1 5 0 0 0");
        Edge.leaves(1, x -> x.comes(0, 0));
        Edge.leaves(0, x -> x.comes(1, 0));
        Edge.in(Worlds::last);
        Edge.leaves(400, x -> x.comes(0, 1));
        Edge.says("COMES; NONE.");
        Edge.leaves(-1, x -> x.comes(1, 0));
        Edge.in(Worlds::late);
        Edge.leaves(-1, x -> x.comes(0, 1));
        Edge.in(Worlds::usual);
        Edge.says("-11 WALKER, GAIT (counted as -1).");
        for (int gait : NO_GAITS) {
            Edge.refused(-11, x -> x.comes(gait, 0));
        }
        for (int walker : NO_WALKERS) {
            Edge.refused(-11, x -> x.comes(0, walker));
        }
        Edge.refused(-11, x -> x.comes(3, 3));
    }

    private static void meet() {
        Edge.promise(22);
        Edge.terms("MEET of two: the first BEAT in which they are both at one PLACE behind it.");
        Edge.in(Worlds::last);
        Edge.leaves(400, x -> x.meet(0, 1));
        Edge.leaves(400, x -> x.meet(1, 0));
        Edge.terms("MEET is from BEAT 1 on.");
        Edge.in("gait 0 s;gait 0 f;gait 0 sf;walker 1 5 1 0 0;walker 1 5 1 0 0;walker 1 5 3 1 0;walker 1 5 1 2 0");
        Edge.leaves(1, x -> x.meet(0, 1));
        Edge.leaves(1, x -> x.meet(0, 3));
        // He goes off at once, round along the edge, and is back behind 28 beats.
        Edge.leaves(28, x -> x.meet(0, 2));
        Edge.says("MEET; NONE.");
        Edge.in(Worlds::late);
        Edge.leaves(-1, x -> x.meet(0, 1));
        Edge.in(Worlds::full);
        Edge.leaves(-1, x -> x.meet(0, 5));
        Edge.in(Worlds::usual);
        Edge.says("-11;");
        for (int walker : NO_WALKERS) {
            Edge.refused(-11, x -> x.meet(0, walker));
            Edge.refused(-11, x -> x.meet(walker, 0));
        }
        Edge.says("-16 the same (counted as -1, -6).");
        for (int walker = 0; walker < 3; walker++) {
            int same = walker;
            Edge.refused(-16, x -> x.meet(same, same));
        }
        Edge.terms(ORDER);
        Edge.refused(-11, x -> x.meet(3, 3));
        Edge.refused(-11, x -> x.meet(-1, -1));
    }

    private static void meetings() {
        Edge.promise(23);
        Edge.says("MEETINGS over n BEATS (0 to 400).");
        Edge.in("gait 0 s" + ";walker 0 0 0 0 0".repeat(3) + ";walker 1 5 0 0 0;walker 1 5 0 0 0");
        Edge.leaves(0, x -> x.meetings(0));
        Edge.leaves(2, x -> x.meetings(1));
        Edge.leaves(800, x -> x.meetings(400));
        AsTheLastHeMet x = Worlds.lively();
        for (int n : BEATS) {
            Edge.due("meetings(" + n + ")", x.meetings(n), Worlds.behind(Worlds.lively(), n).status(4));
        }
        Edge.terms("MEETINGS: PLACES with two or more, over n BEATS together.");
        Edge.in(Worlds::last);
        Edge.leaves(0, y -> y.meetings(399));
        Edge.leaves(1, y -> y.meetings(400));
        Edge.in(Worlds::usual);
        Edge.says("-6.");
        for (int n : NO_BEATS) {
            Edge.refused(-6, y -> y.meetings(n));
        }
    }

    private static void ring() {
        Edge.promise(24);
        Edge.terms("RING: the first BEAT b (0: now) behind which all is as it is again behind a later one (400 at most), and how "
                + "many BEATS later first.");
        Edge.in("gait 0 s;walker 0 5 0 0 0");
        Edge.leaves(0, x -> x.ring(0));
        Edge.leaves(1, x -> x.ring(1));
        Edge.in("gait 0 sssssssr;walker 0 5 0 0 0");
        Edge.leaves(0, x -> x.ring(0));
        Edge.leaves(32, x -> x.ring(1));
        // He is at the edge behind three beats, turned there behind the fourth, and goes round in 28.
        Edge.in("gait 0 f;walker 0 24 0 0 0");
        Edge.leaves(4, x -> x.ring(0));
        Edge.leaves(28, x -> x.ring(1));
        // A mirror is turned, and that he stays: the first beat doesn't come again.
        Edge.in("gait 0 s;walker 4 5 0 0 0;walker 1 5 0 0 0");
        Edge.leaves(1, x -> x.ring(0));
        Edge.leaves(1, x -> x.ring(1));
        // All six count: rings of 1 to 8 beats of those who stand.
        Edge.in(Worlds::full);
        Edge.leaves(60, x -> x.ring(1));
        Edge.leads(140, x -> x.teach(5, 6) + x.teach(4, 3) + x.teach(2, 4), x -> x.ring(1));
        // Behind 120 beats all is as behind 400, the last that counts; one more, and there is none.
        Edge.in("gait 2 ffffl;gait 1 sf;wall 18;wall 14;wall 47;wall 37;wall 1;walker 1 17 3 0 0;walker 0 28 3 1 0");
        Edge.leaves(120, x -> x.ring(0));
        Edge.leaves(280, x -> x.ring(1));
    }

    private static void ringRefused() {
        Edge.says("-5 another what;");
        Edge.in(Worlds::usual);
        for (int what : new int[] {-1, 2, MIN, MAX}) {
            Edge.refused(-5, x -> x.ring(what));
        }
        Edge.says("-6 there is none to BEAT 400.");
        Edge.in("gait 0 srsfslsf;gait 1 rfsfl;walker 1 33 1 0 0;walker 0 43 3 1 0");
        Edge.refused(-6, x -> x.ring(0));
        Edge.refused(-6, x -> x.ring(1));
        Edge.leads(288, x -> x.beat(1), x -> x.ring(0));
        Edge.leads(112, x -> x.beat(1), x -> x.ring(1));
        // Those who stand with 5, 7, 8 and 3 steps come round in 840 beats; with 5, 7 and 8 in 280.
        Edge.in("gait 0 sssss;gait 0 sssssss;gait 0 ssssssss;gait 0 sss;walker 0 0 0 0 0;walker 0 2 0 1 0;walker 0 4 0 2 0;"
                + "walker 0 6 0 3 0");
        Edge.refused(-6, x -> x.ring(0));
        Edge.refused(-6, x -> x.ring(1));
        Edge.leads(280, x -> x.goes(), x -> x.ring(1));
        Edge.terms(ORDER);
        Edge.refused(-5, x -> x.ring(2));
    }

    private static void alone() {
        Edge.promise(25);
        Edge.terms("ALONE of somebody: where and how he would be behind n BEATS, were he alone.");
        for (int walker = 0; walker < 5; walker++) {
            AsTheLastHeMet all = Worlds.lively();
            AsTheLastHeMet only = Worlds.lively();
            int[] him = new int[7];
            for (int what = 0; what < 7; what++) {
                him[what] = only.walkerOf(walker, what);
            }
            while (only.status(1) > 0) {
                only.goes();
            }
            only.walker(him[0], him[1], him[2], him[3], him[6]);
            for (int n : BEATS) {
                for (int what = 0; what < 5; what++) {
                    Edge.due("alone(" + n + ", " + walker + ", " + what + ")", all.alone(n, walker, what),
                            only.at(n, 0, what));
                }
            }
        }
        // Those who are where he is, of lower and of higher numbers, are not there then.
        Edge.in("gait 0 s;gait 0 s;walker 0 5 0 0 0;walker 1 5 1 1 0;walker 0 5 2 0 0;walker 5 6 3 1 0");
        for (int walker : new int[] {0, 2}) {
            Edge.leaves(0, x -> x.alone(1, walker, 2));
            Edge.leaves(walker, x -> x.alone(400, walker, 1));
        }
        // He goes on from how he is: turned, and behind two of his steps.
        Edge.in("gait 0 sslf;walker 1 24 0 0 0;walker 4 24 2 0 0;beat 2");
        Edge.leaves(1, x -> x.alone(0, 1, 4));
        Edge.leaves(2, x -> x.alone(0, 1, 3));
        Edge.leaves(1, x -> x.alone(1, 1, 1));
        Edge.leaves(25, x -> x.alone(2, 1, 0));
        Edge.leaves(1, x -> x.alone(400, 1, 4));
        Edge.in(Worlds::usual);
        Edge.says("-1;");
        for (int walker : NO_WALKERS) {
            Edge.refused(-1, x -> x.alone(0, walker, 0));
        }
        Edge.says("-5;");
        for (int what : new int[] {-1, 5, 6, MIN, MAX}) {
            Edge.refused(-5, x -> x.alone(0, 0, what));
        }
        Edge.says("-6.");
        for (int n : NO_BEATS) {
            Edge.refused(-6, x -> x.alone(n, 0, 0));
        }
        Edge.terms(ORDER);
        Edge.refused(-1, x -> x.alone(401, 3, 5));
        Edge.refused(-5, x -> x.alone(401, 0, 5));
    }

    private static void alike() {
        Edge.promise(26);
        Edge.says("(0: now, also if there is nobody.)");
        Edge.in(AsTheLastHeMet::new);
        Edge.leaves(0, x -> x.alike());
        Edge.in("gait 0 s");
        Edge.leaves(0, x -> x.alike());
        Edge.in("gait 0 s;gait 0 s;walker 2 0 0 1 0");
        Edge.leaves(0, x -> x.alike());
        Edge.in("gait 0 s" + ";walker 2 0 0 0 0".repeat(6));
        Edge.leaves(0, x -> x.alike());
        Edge.terms("ALIKE: the first BEAT behind which all have one GAIT.");
        Edge.in("gait 0 s;gait 0 s;walker 0 5 0 1 0;walker 1 5 0 0 0");
        Edge.leaves(1, x -> x.alike());
        Edge.in(Worlds::last);
        Edge.leaves(400, x -> x.alike());
        Edge.says("ALIKE; NONE.");
        Edge.in(Worlds::late);
        Edge.leaves(-1, x -> x.alike());
        // The last of six alone has another gait, and keeps it; the same of the first.
        Edge.in("gait 0 s;gait 0 s" + ";walker 2 0 0 0 0".repeat(5) + ";walker 2 0 0 1 0");
        Edge.leaves(-1, x -> x.alike());
        Edge.in("gait 0 s;gait 0 s;walker 2 0 0 1 0" + ";walker 2 0 0 0 0".repeat(5));
        Edge.leaves(-1, x -> x.alike());
    }

    /** All places are walls but these. */
    private static AsTheLastHeMet open(String text, int... places) {
        AsTheLastHeMet x = Check.told(text);
        for (int place = 0; place < 49; place++) {
            boolean wall = true;
            for (int one : places) {
                wall &= one != place;
            }
            if (wall) {
                x.wall(place, true);
            }
        }
        return x;
    }

    private static void hirePlaces() {
        Edge.promise(27);
        Edge.terms("of all free PLACES (no WALL, nobody there), by numbers, and WAYS at which a new KEEPER with it may begin");
        // The one who stands at 47 is met from 48 with way 3 alone in the first beat.
        Edge.in(() -> open("gait 2 f;gait 0 s;walker 0 47 0 1 0", 47, 48));
        Edge.leaves(195, x -> x.hire(0, 0));
        Edge.leaves(1, x -> x.hire(0, 1));
        // The first of all: from 0 with way 0, where a turn left at the wall leads to no sooner way.
        Edge.in(() -> open("gait 0 s;gait 0 f;walker 3 1 3 1 0", 0, 1));
        Edge.leaves(0, x -> x.hire(0, 0));
        Edge.leaves(1, x -> x.hire(0, 1));
        // Of ways and places that are as soon, the first.
        Edge.in("gait 0 s;gait 0 f;walker 3 24 0 1 0");
        Edge.leaves(4 * 17, x -> x.hire(0, 0));
        Edge.in("gait 0 f;gait 0 s;walker 3 24 0 1 0");
        Edge.leaves(4 * 17 + 2, x -> x.hire(0, 0));
        Edge.leads(4 * 23 + 1, x -> x.wall(17, true), x -> x.hire(0, 0));
        // One of no use may stand where it would be soonest: nobody begins there.
        Edge.leads(4 * 23 + 1, x -> x.walker(2, 17, 0, 0, 0), x -> x.hire(0, 0));
        Edge.says("NONE.");
        // No place is free, though one has it already.
        Edge.in(() -> open("gait 0 f;gait 0 s;walker 0 24 0 0 0", 24));
        Edge.leaves(-1, x -> x.hire(0, 0));
        Edge.leaves(-1, x -> x.hire(0, 1));
        Edge.in(() -> open("gait 0 f"));
        Edge.leaves(-1, x -> x.hire(0, 0));
        Edge.leaves(-1, x -> x.hire(0, 1));
        // A place is free, but he who is elsewhere is never met.
        Edge.in(() -> open("gait 0 f;gait 0 s;walker 0 24 0 1 0", 24, 26));
        Edge.leaves(-1, x -> x.hire(0, 0));
        Edge.leaves(-1, x -> x.hire(0, 1));
        // One who never takes has another gait.
        for (int kind : new int[] {1, 2, 5}) {
            Edge.in("gait 0 f;gait 0 s;walker " + kind + " 24 0 1 0");
            Edge.leaves(-1, x -> x.hire(0, 0));
            Edge.leaves(-1, x -> x.hire(0, 1));
        }
        Edge.in("gait 0 f;gait 0 s;walker 6 24 0 1 0");
        Edge.leaves(-1, x -> x.hire(0, 0));
        Edge.in("gait 0 s;gait 0 f;walker 6 24 0 0 0");
        Edge.leaves(4 * 17 + 2, x -> x.hire(1, 0));
    }

    private static void hireWalkers() {
        Edge.terms("(there are 5 WALKERS at most)");
        // All have it at once, nobody or five: the first free place, way 0.
        Edge.in("gait 0 s");
        Edge.leaves(0, x -> x.hire(0, 0));
        Edge.leaves(0, x -> x.hire(0, 1));
        Edge.in("gait 0 s" + ";walker 0 0 0 0 0".repeat(5));
        Edge.leaves(4, x -> x.hire(0, 0));
        Edge.leaves(0, x -> x.hire(0, 1));
        // Five stand in a row, the last has another gait: it is given on from the other side of them.
        Edge.in("gait 0 f;gait 0 s;walker 2 0 0 0 0;walker 2 1 0 0 0;walker 2 2 0 0 0;walker 2 3 0 0 0;walker 0 4 0 1 0");
        Edge.leaves(4 * 5 + 3, x -> x.hire(0, 0));
        Edge.leaves(1, x -> x.hire(0, 1));
        Edge.says("-17 there are 6 WALKERS (counted as -1, -5, -7).");
        Edge.in("gait 0 s" + ";walker 0 0 0 0 0".repeat(6));
        Edge.refused(-17, x -> x.hire(0, 0));
        Edge.refused(-17, x -> x.hire(0, 1));
        Edge.leads(4, x -> x.goes(), x -> x.hire(0, 0));
    }

    private static void hireBeats() {
        Edge.terms("that by which it is soonest (100 BEATS at most) that all have it: 4 times the PLACE and the WAY; the BEAT; "
                + "NONE.");
        Edge.in(() -> {
            AsTheLastHeMet x = Check.told("gait 2 frsssrsl;gait 2 ssrf;walker 0 47 2 1 0;walker 0 24 3 1 0");
            for (int place : new int[] {38, 32, 8, 30, 6, 20, 36, 39, 0, 22, 28, 34, 3, 18, 10}) {
                x.wall(place, true);
            }
            return x;
        });
        Edge.leaves(124, x -> x.hire(0, 0));
        Edge.leaves(100, x -> x.hire(0, 1));
        // Hired there in truth, it is so indeed.
        Edge.leads(100, x -> x.walker(1, 31, 0, 0, 0), x -> x.alike());
        Edge.in("gait 1 slsf;gait 0 lsrffr;walker 0 14 0 1 0;walker 3 35 1 1 0");
        Edge.leaves(-1, x -> x.hire(0, 0));
        Edge.leaves(-1, x -> x.hire(0, 1));
        int soonest = 401;
        for (int begin = 0; begin < 196; begin++) {
            AsTheLastHeMet x = Check.told("gait 1 slsf;gait 0 lsrffr;walker 0 14 0 1 0;walker 3 35 1 1 0");
            if (begin / 4 != 14 && begin / 4 != 35) {
                x.walker(1, begin / 4, begin % 4, 0, 0);
                int first = Math.max(x.comes(0, 0), x.comes(0, 1));
                boolean all = x.alike() >= 0 && x.lost(1) >= 0;
                soonest = all ? Math.min(soonest, Math.max(first, x.lost(1))) : soonest;
            }
        }
        Edge.due("of all beginnings there the soonest is a beat too late", soonest, 101);
    }

    private static void hireRefused() {
        Edge.in(Worlds::usual);
        Edge.says("-11 GAIT;");
        for (int gait : NO_GAITS) {
            Edge.refused(-11, x -> x.hire(gait, 0));
        }
        Edge.says("-15 another what;");
        for (int what : new int[] {-1, 2, MIN, MAX}) {
            Edge.refused(-15, x -> x.hire(0, what));
        }
        Edge.terms(ORDER);
        Edge.refused(-11, x -> x.hire(3, 2));
        Edge.in(Worlds::full);
        Edge.refused(-11, x -> x.hire(8, 0));
        Edge.refused(-15, x -> x.hire(0, 2));
        Edge.refused(-17, x -> x.hire(0, 1));
    }

    /** A world with sights as ints on shelf 1. */
    private static AsTheLastHeMet seen(String text, int... sights) {
        AsTheLastHeMet x = Check.told(text);
        Check.fill(x, 1, sights);
        return x;
    }

    private static final String TWO = "gait 1 f;gait 0 s;walker 1 0 1 0 0;walker 1 3 0 1 0";

    private static void fit() {
        Edge.promise(28);
        Edge.says("FIT of the first n (0 to 10) threes of the ROW in SHELF s.");
        Edge.leaves(0, x -> x.fit(4, 0));
        Edge.leaves(0, x -> x.fit(6, 0));
        Edge.in(() -> seen(TWO, 0, 0, 0, 0, 3, 1, 0, 3, 0, 1, 1, 0, 400, 3, 1, 28, 0, 0, 399, 6, 0, 400, 0, 0, 0, 0, 0,
                3, 3, 0, 3, 3, 1));
        // The third of these is not so, nor the eighth: round along the edge he is back in 28 beats, and 400 are 14 rounds
        // and 8 beats.
        int[] so = {0, 1, 2, 2, 3, 4, 5, 6, 6, 7, 8};
        for (int n = 0; n <= 10; n++) {
            int first = n;
            Edge.leaves(so[n], x -> x.fit(1, first));
        }
        Edge.terms("a BEAT (0 to 400), a PLACE, a GAIT: somebody was there then with it.");
        Edge.in(() -> seen(TWO, 0, 0, 0, 0, 0, 1, 0, 3, 1, 0, 1, 0, 0, 48, 0));
        int[] now = {0, 1, 1, 2, 2, 2};
        for (int n = 0; n <= 5; n++) {
            int first = n;
            Edge.leaves(now[n], x -> x.fit(1, first));
        }
        AsTheLastHeMet x = Worlds.lively();
        for (int n : BEATS) {
            AsTheLastHeMet then = Worlds.behind(Worlds.lively(), n);
            for (int w = 0; w < 5; w++) {
                Check.fill(x, 0, n, then.walkerOf(w, 1), then.walkerOf(w, 3));
                Edge.due("a sight behind " + n, x.fit(0, 1), 1);
            }
        }
    }

    private static void fitRefused() {
        Edge.in(Worlds::usual);
        Edge.says("-1;");
        for (int s : new int[] {-1, 8, MIN, MAX}) {
            Edge.refused(-1, x -> x.fit(s, 0));
        }
        Edge.says("-2;");
        Edge.refused(-2, x -> x.fit(2, 0));
        Edge.says("-3;");
        Edge.refused(-3, x -> x.fit(3, 0));
        Edge.says("-4 n;");
        Edge.refused(-4, x -> x.fit(4, -1));
        Edge.refused(-4, x -> x.fit(4, MIN));
        Edge.says("-5 fewer elements;");
        Edge.refused(-5, x -> x.fit(4, 12));
        Edge.refused(-5, x -> x.fit(0, 4));
        Edge.refused(-5, x -> x.fit(6, 1));
        Edge.refused(-5, x -> x.fit(4, MAX));
        // Three times this n would wrap around to a small number.
        Edge.refused(-5, x -> x.fit(4, 0x55555556));
        Edge.says("-6 n above 10, numbers that may not be (no such GAIT, too).");
        Edge.refused(-6, x -> x.fit(4, 11));
        Edge.leaves(0, x -> x.fit(4, 10));
        int[][] wrong = {{-1, 0, 0}, {401, 0, 0}, {MAX, 0, 0}, {MIN, 0, 0}, {0, -1, 0}, {0, 49, 0}, {0, 0, -1}, {0, 0, 2}};
        for (int[] three : wrong) {
            Edge.in(() -> seen(TWO, 0, 0, 0, three[0], three[1], three[2], 0, 0, 0));
            Edge.refused(-6, x -> x.fit(1, 2));
            Edge.refused(-6, x -> x.fit(1, 3));
            Edge.leaves(1, x -> x.fit(1, 1));
            Edge.in(() -> seen(TWO, three));
            Edge.refused(-6, x -> x.fit(1, 1));
            Edge.refused(-6, x -> x.began(1, 1, 0));
            Edge.leaves(0, x -> x.fit(1, 0));
        }
        Edge.in(() -> seen(TWO, 400, 48, 1));
        Edge.leaves(0, x -> x.fit(1, 1));
        Edge.terms("Elements of a ROW of longs count by their lowest 32 bits wherever a ROW tells something.");
        Edge.in(() -> {
            AsTheLastHeMet x = seen(TWO);
            x.row(1, 3, 3);
            x.set(1, 0, 0x300000001L);
            x.set(1, 1, 0x8000000000000001L);
            x.set(1, 2, 0x100000000L);
            return x;
        });
        Edge.leaves(1, x -> x.fit(1, 1));
        Edge.terms(ORDER);
        Edge.in(Worlds::usual);
        Edge.refused(-1, x -> x.fit(8, -1));
        Edge.refused(-2, x -> x.fit(2, -1));
        Edge.refused(-3, x -> x.fit(3, -1));
        Edge.refused(-5, x -> x.fit(0, 11));
        Edge.in(() -> seen(TWO, 401, 49, 2));
        Edge.refused(-5, x -> x.fit(1, 2));
        Edge.refused(-4, x -> x.fit(1, -1));
    }

    private static void began() {
        Edge.promise(29);
        Edge.says("BEGAN by them (bits).");
        Edge.in(() -> seen("gait 0 f;gait 0 sf;gait 0 ssf;walker 1 0 1 0 0", 2, 2, 0, 1, 1, 0, 2, 1, 1));
        Edge.leaves(7, x -> x.began(1, 0, 0));
        Edge.leaves(1, x -> x.began(1, 1, 0));
        Edge.leaves(1, x -> x.began(1, 2, 0));
        Edge.leaves(0, x -> x.began(1, 3, 0));
        Edge.in(() -> {
            AsTheLastHeMet x = Worlds.full();
            Check.fill(x, 1, 0, 10, 0, 400, 10, 0);
            return x;
        });
        // The first must have gait 0 so that it is so; with the others any gait does.
        Edge.leaves(255, x -> x.began(1, 0, 0));
        Edge.leaves(1, x -> x.began(1, 2, 0));
        Edge.leaves(255, x -> x.began(1, 2, 5));
        // All ten must be so, the last, too.
        Edge.in(() -> seen("gait 0 s;gait 0 s;walker 1 0 0 0 0", new int[27]));
        Edge.leaves(1, x -> x.began(1, 9, 0));
        int[] lastOther = new int[30];
        lastOther[29] = 1;
        Edge.in(() -> seen("gait 0 s;gait 0 s;walker 1 0 0 0 0", lastOther));
        Edge.leaves(0, x -> x.began(1, 10, 0));
        Edge.leaves(1, x -> x.began(1, 9, 0));
        Edge.terms("(else as he is,");
        // He is turned: with gait 1 he goes to the right of him, who went to the left else.
        Edge.in(() -> {
            AsTheLastHeMet x = Check.told("gait 0 s;gait 0 lf;walker 4 24 0 0 0;walker 1 24 0 0 0;beat 1");
            x.goes();
            Check.fill(x, 1, 2, 25, 1);
            return x;
        });
        Edge.leaves(2, x -> x.began(1, 1, 0));
    }

    private static void beganDone() {
        Edge.terms("DONE modulo how many STEPS it has");
        // Gait g has g + 1 steps, of which he goes on with that one alone that is the next when so many are done: behind
        // the next beat he is at 1, and at 2 when that step comes again.
        for (int done = 0; done <= 7; done++) {
            int did = done;
            for (int gait = 0; gait <= 7; gait++) {
                int asked = gait;
                Edge.in(() -> {
                    AsTheLastHeMet x = new AsTheLastHeMet();
                    for (int g = 0; g < 8; g++) {
                        StringBuilder steps = new StringBuilder("ssssssss".substring(0, g + 1));
                        steps.setCharAt(did % (g + 1), 'f');
                        Worlds.gait(x, steps.toString(), 2);
                    }
                    x.walker(1, 0, 1, 7, 0);
                    if (did > 0) {
                        x.beat(did);
                    }
                    Check.fill(x, 1, 1, 1, asked, asked + 1, 1, asked, asked + 2, 2, asked);
                    return x;
                });
                Edge.leaves(1 << gait, x -> x.began(1, 3, 0));
                Edge.leaves(did % 8, x -> x.walkerOf(0, 4));
            }
        }
    }

    private static void beganRefused() {
        Edge.in(Worlds::usual);
        Edge.says("-1 also the WALKER;");
        for (int s : new int[] {-1, 8, MIN, MAX}) {
            Edge.refused(-1, x -> x.began(s, 0, 0));
        }
        for (int walker : NO_WALKERS) {
            Edge.refused(-1, x -> x.began(4, 0, walker));
        }
        Edge.says("-2;");
        Edge.refused(-2, x -> x.began(2, 0, 0));
        Edge.says("-3;");
        Edge.refused(-3, x -> x.began(3, 0, 0));
        Edge.says("-4;");
        Edge.refused(-4, x -> x.began(4, -1, 0));
        Edge.refused(-4, x -> x.began(4, MIN, 0));
        Edge.says("-5;");
        Edge.refused(-5, x -> x.began(4, 12, 0));
        Edge.refused(-5, x -> x.began(6, 1, 0));
        Edge.refused(-5, x -> x.began(4, MAX, 0));
        Edge.refused(-5, x -> x.began(4, 0x55555556, 0));
        Edge.says("-6 likewise.");
        Edge.refused(-6, x -> x.began(4, 11, 0));
        int[][] wrong = {{-1, 0, 0}, {401, 0, 0}, {0, -1, 0}, {0, 49, 0}, {0, 0, -1}, {0, 0, 2}};
        for (int[] three : wrong) {
            Edge.in(() -> seen(TWO, 0, 0, 0, three[0], three[1], three[2]));
            Edge.refused(-6, x -> x.began(1, 2, 0));
            Edge.leaves(1, x -> x.began(1, 1, 0));
        }
        Edge.in(() -> seen(TWO, 400, 48, 1));
        Edge.leaves(0, x -> x.began(1, 1, 1));
        Edge.terms(ORDER);
        Edge.in(Worlds::usual);
        Edge.refused(-1, x -> x.began(8, -1, 0));
        Edge.refused(-1, x -> x.began(2, -1, 3));
        Edge.refused(-1, x -> x.began(3, -1, -1));
        Edge.refused(-1, x -> x.began(4, 11, 3));
        Edge.refused(-2, x -> x.began(2, -1, 0));
        Edge.refused(-3, x -> x.began(3, -1, 0));
        Edge.refused(-5, x -> x.began(0, 11, 0));
        Edge.refused(-4, x -> x.began(0, -1, 0));
    }

    private static void thief() {
        Edge.promise(30);
        Edge.terms("THIEF: the one who had a told GAIT at BEAT 0 (the first by numbers): where his body is behind n BEATS.");
        Edge.in("gait 0 s;gait 0 s;gait 0 s;walker 0 0 0 1 0;walker 0 5 0 2 0;walker 0 9 0 1 0;walker 0 11 0 2 0");
        Edge.leaves(0, x -> x.thief(1, 0));
        Edge.leaves(5, x -> x.thief(2, 0));
        Edge.leaves(5, x -> x.thief(2, 400));
        AsTheLastHeMet x = Worlds.lively();
        int[] thieves = {0, 1, 2, 3};
        for (int n : BEATS) {
            AsTheLastHeMet then = Worlds.behind(Worlds.lively(), n);
            for (int gait = 0; gait < 4; gait++) {
                Edge.due("thief(" + gait + ", " + n + ")", x.thief(gait, n), then.walkerOf(thieves[gait], 1));
            }
        }
        Edge.in(Worlds::usual);
        Edge.says("-1;");
        for (int gait : NO_GAITS) {
            Edge.refused(-1, y -> y.thief(gait, 0));
        }
        Edge.says("-6.");
        for (int n : NO_BEATS) {
            Edge.refused(-6, y -> y.thief(0, n));
        }
        Edge.says("-5 nobody has it;");
        Edge.in(Worlds::full);
        Edge.refused(-5, y -> y.thief(6, 0));
        Edge.refused(-5, y -> y.thief(7, 400));
        Edge.leaves(20, y -> y.thief(5, 400));
        // He who has it later didn't have it now.
        Edge.in("gait 0 s;gait 0 s;gait 0 s;walker 0 5 0 0 0;walker 1 5 0 1 0");
        Edge.refused(-5, y -> y.thief(2, 1));
        Edge.terms(ORDER);
        Edge.refused(-1, y -> y.thief(3, 401));
        Edge.refused(-5, y -> y.thief(2, 401));
    }
}
