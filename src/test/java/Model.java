import java.util.ArrayList;
import java.util.Arrays;
import java.util.HashMap;
import java.util.List;
import java.util.Map;
import java.util.TreeMap;
import java.util.TreeSet;

/** The document once more, in its plainest form and with the whole Java library: ModelTest holds the class against it. */
final class Model {
    record Gait(List<Integer> steps, int wall) { }

    record Body(int place, int way, int gait, int done, int turned) { }

    record Person(int kind, int a, Body body) {
        Person with(Body other) {
            return new Person(kind, a, other);
        }
    }

    record Row(int sort, long[] elements) { }

    static final class State {
        final List<Gait> gaits = new ArrayList<>();
        final TreeSet<Integer> walls = new TreeSet<>();
        List<Person> people = new ArrayList<>();
        int beats = 0;
        int met = 0;
        int seed = 1;

        State twin() {
            State s = new State();
            s.gaits.addAll(gaits);
            s.walls.addAll(walls);
            s.people = new ArrayList<>(people);
            s.beats = beats;
            s.met = met;
            s.seed = seed;
            return s;
        }

        int goBeats(int n) {
            int sum = 0;
            for (int i = 0; i < n; i++) {
                sum += goBeat();
            }
            return sum;
        }

        int goBeat() {
            List<Person> stepped = new ArrayList<>();
            for (Person p : people) {
                stepped.add(p.with(stepped(p.body)));
            }
            Map<Integer, List<Integer>> there = new TreeMap<>();
            for (int i = 0; i < stepped.size(); i++) {
                there.computeIfAbsent(stepped.get(i).body.place, k -> new ArrayList<>()).add(i);
            }
            List<Person> met = new ArrayList<>(stepped);
            TreeSet<Integer> meeting = new TreeSet<>();
            int meetings = 0;
            for (List<Integer> group : there.values()) {
                if (group.size() < 2) {
                    continue;
                }
                meetings++;
                meeting.addAll(group);
                for (int i = 0; i < group.size(); i++) {
                    Person taker = stepped.get(group.get(i));
                    Person giver = stepped.get(group.get((i + 1) % group.size()));
                    if (takes(taker, giver) && List.of(0, 1, 5).contains(giver.kind)) {
                        Body b = giver.body;
                        int turned = taker.kind == 4 ? 1 - b.turned : b.turned;
                        met.set(group.get(i), taker.with(new Body(b.place, b.way, b.gait, b.done, turned)));
                    }
                }
            }
            List<Person> heard = new ArrayList<>(met);
            for (int i = 0; i < met.size(); i++) {
                if (meeting.contains(i)) {
                    continue;
                }
                Person p = met.get(i);
                for (Person loud : met) {
                    if (loud.kind == 5 && beside(p.body.place).contains(loud.body.place) && takes(p, loud)) {
                        int turned = p.kind == 4 ? 1 - loud.body.turned : loud.body.turned;
                        heard.set(i, p.with(new Body(p.body.place, p.body.way, loud.body.gait, loud.body.done, turned)));
                        break;
                    }
                }
            }
            people = heard;
            return meetings;
        }

        Body stepped(Body b) {
            Gait g = gaits.get(b.gait);
            int place = b.place;
            int way = b.way;
            int step = g.steps.get(b.done);
            String turn = "stand";
            if (step == 0) {
                int row = place / 7 + new int[] {-1, 0, 1, 0}[way];
                int column = place % 7 + new int[] {0, 1, 0, -1}[way];
                boolean is = row >= 0 && row < 7 && column >= 0 && column < 7 && !walls.contains(7 * row + column);
                if (is) {
                    place = 7 * row + column;
                } else {
                    turn = List.of("left", "right", "back").get(g.wall);
                }
            } else {
                turn = List.of("left", "right", "stand").get(step - 1);
            }
            switch (turn) {
                case "left" -> way += b.turned == 0 ? -1 : 1;
                case "right" -> way += b.turned == 0 ? 1 : -1;
                case "back" -> way += 2;
                default -> { }
            }
            return new Body(place, Math.floorMod(way, 4), b.gait, (b.done + 1) % g.steps.size(), b.turned);
        }

        static boolean takes(Person p, Person from) {
            return switch (p.kind) {
                case 0, 3, 4 -> true;
                case 6 -> from.body.gait > p.body.gait;
                default -> false;
            };
        }

        static List<Integer> beside(int place) {
            List<Integer> all = new ArrayList<>();
            for (int q = 0; q < 49; q++) {
                int rows = Math.abs(q / 7 - place / 7);
                int columns = Math.abs(q % 7 - place % 7);
                if (rows == 1 && columns == 0 || rows == 0 && columns == 1) {
                    all.add(q);
                }
            }
            return all;
        }

        boolean isFree(int place) {
            return !walls.contains(place) && people.stream().noneMatch(p -> p.body.place == place);
        }

        int draw(int n) {
            seed = seed * 1103515245 + 12345;
            return Integer.remainderUnsigned(seed >>> 16, n);
        }
    }

    State now = new State();
    State image = null;
    final Object[] shelves = new Object[8];
    int latestFault = -1;
    List<Integer> traced = new ArrayList<>();
    final int[] refused = new int[8];

    // ---- refusals

    int no(int answer) {
        refused[answer < -10 ? -answer - 10 : -answer]++;
        return answer;
    }

    boolean shelf(int s) {
        return s >= 0 && s < 8;
    }

    boolean hasGait(int g) {
        return g >= 0 && g < now.gaits.size();
    }

    boolean hasWalker(int w) {
        return w >= 0 && w < now.people.size();
    }

    static boolean in(int v, int low, int high) {
        return low <= v && v <= high;
    }

    int rowTrouble(int s) {
        if (!shelf(s)) {
            return -1;
        }
        if (shelves[s] instanceof Integer) {
            return -2;
        }
        return shelves[s] == null ? -3 : 0;
    }

    long[] rowOf(int s) {
        return ((Row) shelves[s]).elements;
    }

    // ---- the face

    long call(String name, long[] v) {
        int[] i = new int[7];
        for (int k = 0; k < v.length; k++) {
            i[k] = (int) v[k];
        }
        return switch (name) {
            case "row" -> row(i[0], i[1], i[2]);
            case "set" -> set(i[0], i[1], v[2]);
            case "copy" -> copy(i[0], i[1], i[2], i[3], i[4]);
            case "element" -> element(i[0], i[1]);
            case "show" -> show(i[0], i[1]);
            case "holds" -> holds(i[0]);
            case "says" -> says(i[0], i[1]);
            case "gait" -> gait(i[0], i[1], i[2]);
            case "gaitOf" -> gaitOf(i[0], i[1]);
            case "walker" -> walker(i[0], i[1], i[2], i[3], i[4]);
            case "walkerOf" -> walkerOf(i[0], i[1]);
            case "wall" -> wall(i[0], i[1] != 0);
            case "isWall" -> in(i[0], 0, 48) ? now.walls.contains(i[0]) ? 1 : 0 : no(-5);
            case "streets" -> streets(i[0]);
            case "fault" -> latestFault;
            case "at" -> at(i[0], i[1], i[2], false);
            case "alone" -> at(i[0], i[1], i[2], true);
            case "have" -> !hasGait(i[1]) ? no(-1) : !in(i[0], 0, 400) ? no(-6) : have(i[0], i[1]);
            case "survives" -> in(i[0], 0, 400) ? survives(i[0]) : no(-6);
            case "lost" -> lost(i[0]);
            case "comes" -> comes(i[0], i[1]);
            case "meet" -> meet(i[0], i[1]);
            case "meetings" -> in(i[0], 0, 400) ? now.twin().goBeats(i[0]) : no(-6);
            case "ring" -> ring(i[0]);
            case "alike" -> alike(now, -1, 400);
            case "hire" -> hire(i[0], i[1]);
            case "fit" -> fit(i[0], i[1]);
            case "began" -> began(i[0], i[1], i[2]);
            case "thief" -> thief(i[0], i[1]);
            case "beat" -> beat(i[0]);
            case "strangers" -> strangers(i[0]);
            case "goes" -> goes();
            case "teach" -> teach(i[0], i[1]);
            case "seed" -> seed(i[0]);
            case "act" -> act(i[0], i[1], i[2]);
            case "trace" -> i[0] >= 0 && i[0] < Math.min(20, traced.size()) ? traced.get(i[0]) : -1;
            case "image" -> takeImage();
            case "restore" -> restore();
            case "status" -> status(i[0]);
            default -> throw new IllegalArgumentException(name);
        };
    }

    int row(int s, int sort, int n) {
        if (!shelf(s)) {
            return no(-1);
        }
        if (n < 0) {
            return no(-4);
        }
        if (!in(sort, 0, 3)) {
            return no(-6);
        }
        if (n > 160) {
            return no(-7);
        }
        shelves[s] = new Row(sort, new long[n]);
        return 1;
    }

    int set(int s, int i, long v) {
        int trouble = rowTrouble(s);
        if (trouble != 0) {
            return no(trouble);
        }
        Row row = (Row) shelves[s];
        if (!in(i, 0, row.elements.length - 1)) {
            return no(-5);
        }
        int lost = new int[] {56, 48, 32, 0}[row.sort];
        row.elements[i] = v << lost >> lost;
        return 1;
    }

    int copy(int p, int q, int i, int j, int n) {
        if (!shelf(p) || !shelf(q)) {
            return no(-1);
        }
        Object from = shelves[p];
        Object to = shelves[q];
        if (from instanceof Integer || to instanceof Integer) {
            return no(-2);
        }
        if (from != null && to != null && ((Row) from).sort != ((Row) to).sort) {
            return no(-2);
        }
        if (from == null || to == null) {
            return no(-3);
        }
        if (n < 0) {
            return no(-4);
        }
        if (i < 0 || j < 0 || (long) i + n > rowOf(p).length || (long) j + n > rowOf(q).length) {
            return no(-5);
        }
        long[] part = Arrays.copyOfRange(rowOf(p), i, i + n);
        for (int k = 0; k < n; k++) {
            rowOf(q)[j + k] = part[k];
        }
        return 1;
    }

    long element(int s, int i) {
        return shelf(s) && shelves[s] instanceof Row row && in(i, 0, row.elements.length - 1) ? row.elements[i] : 0;
    }

    int show(int s, int w) {
        if (!shelf(s) || w != -1 && !hasWalker(w)) {
            return no(-1);
        }
        shelves[s] = w == -1 ? null : Integer.valueOf(w);
        return w == -1 ? 0 : 1;
    }

    int holds(int s) {
        if (!shelf(s) || shelves[s] == null) {
            return -1;
        }
        return shelves[s] instanceof Row row ? 100 + row.sort : (Integer) shelves[s];
    }

    static boolean under(int kind, int wanted) {
        return switch (wanted) {
            case 0 -> true;
            case 1 -> kind == 1 || kind == 5;
            case 3 -> kind == 3 || kind == 4 || kind == 6;
            default -> kind == wanted;
        };
    }

    int says(int s, int kind) {
        if (!shelf(s) || !in(kind, 0, 6)) {
            return no(-1);
        }
        if (shelves[s] instanceof Row) {
            return no(-2);
        }
        if (shelves[s] == null) {
            return no(-3);
        }
        int number = (Integer) shelves[s];
        Person p = now.people.get(number);
        if (!under(p.kind, kind)) {
            return no(-2);
        }
        List<Person> others = new ArrayList<>(now.people);
        others.remove(number);
        Body b = p.body;
        return switch (kind) {
            case 0 -> b.gait;
            case 1 -> (int) others.stream().filter(o -> o.body.gait == b.gait).count();
            case 2 -> (int) others.stream().filter(o -> o.body.place == b.place).count();
            case 3 -> b.done;
            case 4 -> b.turned;
            case 5 -> (int) others.stream().filter(o -> State.beside(b.place).contains(o.body.place)).count();
            default -> now.gaits.size() - 1 - b.gait;
        };
    }

    int gait(int s, int n, int wall) {
        int trouble = rowTrouble(s);
        if (trouble != 0) {
            return no(trouble);
        }
        if (n < 0) {
            return no(-4);
        }
        if (rowOf(s).length < n) {
            return no(-5);
        }
        if (!in(n, 1, 8) || !in(wall, 0, 2)) {
            return no(-6);
        }
        List<Integer> steps = new ArrayList<>();
        for (int k = 0; k < n; k++) {
            steps.add((int) rowOf(s)[k]);
        }
        if (!steps.stream().allMatch(step -> in(step, 0, 3))) {
            return no(-6);
        }
        if (now.gaits.size() == 8) {
            return no(-7);
        }
        now.gaits.add(new Gait(steps, wall));
        return now.gaits.size() - 1;
    }

    int gaitOf(int g, int what) {
        if (!hasGait(g) || what < -2 || what >= now.gaits.get(g).steps.size()) {
            return no(-15);
        }
        Gait gait = now.gaits.get(g);
        return what == -1 ? gait.steps.size() : what == -2 ? gait.wall : gait.steps.get(what);
    }

    int walker(int kind, int place, int way, int g, int a) {
        if (!in(kind, 0, 6) || !hasGait(g)) {
            return no(-1);
        }
        if (!in(place, 0, 48) || !in(way, 0, 3) || !in(a, 0, 9) || now.walls.contains(place)) {
            return no(-6);
        }
        if (now.people.size() == 6) {
            return no(-7);
        }
        now.people.add(new Person(kind, a, new Body(place, way, g, 0, 0)));
        return now.people.size() - 1;
    }

    static int bodyPart(Body b, int what) {
        return List.of(b.place, b.way, b.gait, b.done, b.turned).get(what);
    }

    int walkerOf(int w, int what) {
        if (!hasWalker(w) || !in(what, 0, 6)) {
            return no(-5);
        }
        Person p = now.people.get(w);
        return what == 0 ? p.kind : what == 6 ? p.a : bodyPart(p.body, what - 1);
    }

    int wall(int place, boolean is) {
        if (!in(place, 0, 48) || is && now.people.stream().anyMatch(p -> p.body.place == place)) {
            return no(-6);
        }
        return (is ? now.walls.add(place) : now.walls.remove(place)) ? 1 : 0;
    }

    int at(int n, int w, int what, boolean alone) {
        if (!hasWalker(w)) {
            return no(-1);
        }
        if (!in(what, 0, 4)) {
            return no(-5);
        }
        if (!in(n, 0, 400)) {
            return no(-6);
        }
        State s = now.twin();
        int number = w;
        if (alone) {
            s.people = new ArrayList<>(List.of(s.people.get(w)));
            number = 0;
        }
        s.goBeats(n);
        return bodyPart(s.people.get(number).body, what);
    }

    static int havers(State s, int g) {
        int bits = 0;
        for (int w = 0; w < s.people.size(); w++) {
            bits |= s.people.get(w).body.gait == g ? 1 << w : 0;
        }
        return bits;
    }

    int have(int n, int g) {
        State s = now.twin();
        s.goBeats(n);
        return havers(s, g);
    }

    int survives(int n) {
        State s = now.twin();
        s.goBeats(n);
        int bits = 0;
        for (int g = 0; g < s.gaits.size(); g++) {
            bits |= havers(s, g) != 0 ? 1 << g : 0;
        }
        return bits;
    }

    int lost(int g) {
        if (!hasGait(g)) {
            return no(-11);
        }
        for (int n = 0; n <= 400; n++) {
            if (nth(n).people.stream().noneMatch(p -> p.body.gait == g)) {
                return n;
            }
        }
        return -1;
    }

    int comes(int g, int w) {
        if (!hasGait(g) || !hasWalker(w)) {
            return no(-11);
        }
        for (int n = 0; n <= 400; n++) {
            if (nth(n).people.get(w).body.gait == g) {
                return n;
            }
        }
        return -1;
    }

    int meet(int w, int o) {
        if (!hasWalker(w) || !hasWalker(o)) {
            return no(-11);
        }
        if (w == o) {
            return no(-16);
        }
        for (int n = 1; n <= 400; n++) {
            List<Person> people = nth(n).people;
            if (people.get(w).body.place == people.get(o).body.place) {
                return n;
            }
        }
        return -1;
    }

    private List<State> chain = null;

    /** All as it is behind n beats; the chain of them is kept until something is called. */
    private State nth(int n) {
        if (n == 0) {
            chain = new ArrayList<>(List.of(now.twin()));
        } else if (chain == null || chain.size() == 0 || n == 1) {
            chain = new ArrayList<>(List.of(now.twin()));
        }
        while (chain.size() <= n) {
            State next = chain.get(chain.size() - 1).twin();
            next.goBeat();
            chain.add(next);
        }
        return chain.get(n);
    }

    int ring(int what) {
        if (!in(what, 0, 1)) {
            return no(-5);
        }
        Map<List<Person>, Integer> behind = new HashMap<>();
        State s = now.twin();
        for (int n = 0; n <= 400; n++) {
            Integer before = behind.put(List.copyOf(s.people), n);
            if (before != null) {
                return what == 0 ? before : n - before;
            }
            s.goBeat();
        }
        return no(-6);
    }

    /** The first beat up to a last one behind which all have one gait (or the told one); -1 if there is none. */
    static int alike(State from, int gait, int last) {
        State s = from.twin();
        for (int n = 0; n <= last; n++) {
            if (s.people.stream().map(p -> p.body.gait).distinct().count() <= 1
                    && (gait < 0 || s.people.stream().allMatch(p -> p.body.gait == gait))) {
                return n;
            }
            s.goBeat();
        }
        return -1;
    }

    int hire(int g, int what) {
        if (!hasGait(g)) {
            return no(-11);
        }
        if (!in(what, 0, 1)) {
            return no(-15);
        }
        if (now.people.size() == 6) {
            return no(-17);
        }
        int best = -1;
        int soonest = -1;
        for (int place = 0; place < 49; place++) {
            for (int way = 0; way < 4; way++) {
                if (now.isFree(place)) {
                    State s = now.twin();
                    s.people.add(new Person(1, 0, new Body(place, way, g, 0, 0)));
                    int n = alike(s, g, 100);
                    if (n >= 0 && (best < 0 || n < soonest)) {
                        best = 4 * place + way;
                        soonest = n;
                    }
                }
            }
        }
        return what == 0 ? best : soonest;
    }

    int sightTrouble(int s, int n) {
        if (n < 0) {
            return -4;
        }
        if (3L * n > rowOf(s).length) {
            return -5;
        }
        if (n > 10) {
            return -6;
        }
        for (int k = 0; k < n; k++) {
            int beat = (int) rowOf(s)[3 * k];
            int place = (int) rowOf(s)[3 * k + 1];
            int g = (int) rowOf(s)[3 * k + 2];
            if (!in(beat, 0, 400) || !in(place, 0, 48) || !hasGait(g)) {
                return -6;
            }
        }
        return 0;
    }

    int fits(State from, int s, int n) {
        int so = 0;
        for (int k = 0; k < n; k++) {
            int place = (int) rowOf(s)[3 * k + 1];
            int g = (int) rowOf(s)[3 * k + 2];
            State then = from.twin();
            then.goBeats((int) rowOf(s)[3 * k]);
            so += then.people.stream().anyMatch(p -> p.body.place == place && p.body.gait == g) ? 1 : 0;
        }
        return so;
    }

    int fit(int s, int n) {
        int trouble = rowTrouble(s);
        if (trouble == 0) {
            trouble = sightTrouble(s, n);
        }
        return trouble != 0 ? no(trouble) : fits(now, s, n);
    }

    int began(int s, int n, int w) {
        int trouble = !hasWalker(w) ? -1 : rowTrouble(s);
        if (trouble == 0) {
            trouble = sightTrouble(s, n);
        }
        if (trouble != 0) {
            return no(trouble);
        }
        int bits = 0;
        for (int g = 0; g < now.gaits.size(); g++) {
            State other = now.twin();
            Person p = other.people.get(w);
            Body b = p.body;
            int done = b.done % now.gaits.get(g).steps.size();
            other.people.set(w, p.with(new Body(b.place, b.way, g, done, b.turned)));
            bits |= fits(other, s, n) == n ? 1 << g : 0;
        }
        return bits;
    }

    int thief(int g, int n) {
        if (!hasGait(g)) {
            return no(-1);
        }
        int havers = havers(now, g);
        if (havers == 0) {
            return no(-5);
        }
        return in(n, 0, 400) ? at(n, Integer.numberOfTrailingZeros(havers), 0, false) : no(-6);
    }

    int beat(int n) {
        if (!in(n, 1, 99)) {
            return no(-6);
        }
        return inTruth(now, n);
    }

    static int inTruth(State s, int n) {
        int meetings = s.goBeats(n);
        s.beats += n;
        s.met += meetings;
        return meetings;
    }

    int strangers(int n) {
        if (now.gaits.isEmpty()) {
            return no(-5);
        }
        if (!in(n, 1, 6)) {
            return no(-6);
        }
        int before = now.people.size();
        for (int k = 0; k < n && now.people.size() < 6; k++) {
            int draws = 0;
            int place = -1;
            while (draws < 100 && place < 0) {
                int drawn = now.draw(49);
                draws++;
                if (now.isFree(drawn)) {
                    place = drawn;
                }
            }
            if (place >= 0) {
                int way = now.draw(4);
                int g = now.draw(now.gaits.size());
                now.people.add(new Person(0, 0, new Body(place, way, g, 0, 0)));
            }
        }
        return now.people.size() - before;
    }

    void clearShelves() {
        for (int s = 0; s < 8; s++) {
            if (shelves[s] instanceof Integer w && w >= now.people.size()) {
                shelves[s] = null;
            }
        }
    }

    int goes() {
        if (now.people.isEmpty()) {
            return no(-6);
        }
        now.people.remove(now.people.size() - 1);
        clearShelves();
        return now.people.size();
    }

    int teach(int w, int g) {
        if (!hasWalker(w) || !hasGait(g)) {
            return no(-1);
        }
        Person p = now.people.get(w);
        Body b = p.body;
        now.people.set(w, p.with(new Body(b.place, b.way, g, 0, b.turned)));
        return b.gait;
    }

    int seed(int v) {
        int before = now.seed;
        now.seed = v;
        return before;
    }

    int takeImage() {
        image = now.twin();
        return now.people.size();
    }

    int restore() {
        if (image == null) {
            return no(-6);
        }
        now = image.twin();
        clearShelves();
        return now.people.size();
    }

    int status(int what) {
        return switch (what) {
            case 0 -> now.gaits.size();
            case 1 -> now.people.size();
            case 2 -> now.walls.size();
            case 3 -> now.beats;
            case 4 -> now.met;
            case 5 -> now.seed;
            case 6 -> traced.size();
            case 11, 12, 13, 14, 15, 16, 17 -> refused[what - 10];
            default -> -1;
        };
    }

    // ---- acts, by Java's own overriding

    static class Walks {
        final int m;
        final int k;
        final List<Integer> trace;

        Walks(int m, int k, List<Integer> trace) {
            this.m = m;
            this.k = k;
            this.trace = trace;
        }

        int steps(int x) {
            trace.add(10);
            return x + m;
        }

        int meets(int x) {
            trace.add(11);
            return steps(x) * 2;
        }

        int takes(int x) {
            trace.add(12);
            return meets(x) ^ steps(x - k);
        }
    }

    static class Keeps extends Walks {
        Keeps(int m, int k, List<Integer> trace) {
            super(m, k, trace);
        }

        @Override int steps(int x) {
            trace.add(20);
            return super.steps(x) + k;
        }
    }

    static class Shies extends Walks {
        Shies(int m, int k, List<Integer> trace) {
            super(m, k, trace);
        }

        @Override int meets(int x) {
            trace.add(30);
            return super.meets(x) * 3;
        }
    }

    static class Takes extends Walks {
        Takes(int m, int k, List<Integer> trace) {
            super(m, k, trace);
        }

        @Override int meets(int x) {
            trace.add(40);
            return super.meets(x + 1);
        }
    }

    static class Mirrors extends Takes {
        Mirrors(int m, int k, List<Integer> trace) {
            super(m, k, trace);
        }

        @Override int takes(int x) {
            trace.add(50);
            return -super.takes(x);
        }

        @Override int steps(int x) {
            trace.add(51);
            return super.steps(x) - m;
        }
    }

    static class Louds extends Keeps {
        Louds(int m, int k, List<Integer> trace) {
            super(m, k, trace);
        }

        @Override int takes(int x) {
            trace.add(60);
            return super.takes(x) ^ 5;
        }
    }

    static class Fickles extends Takes {
        Fickles(int m, int k, List<Integer> trace) {
            super(m, k, trace);
        }

        @Override int steps(int x) {
            trace.add(70);
            return super.steps(x) * 2;
        }

        @Override int meets(int x) {
            trace.add(71);
            return super.meets(x - k);
        }
    }

    int act(int w, int act, int x) {
        traced = new ArrayList<>();
        if (!hasWalker(w) || !in(act, 0, 2)) {
            return 0;
        }
        int k = now.people.get(w).a;
        Walks actor = switch (now.people.get(w).kind) {
            case 1 -> new Keeps(w, k, traced);
            case 2 -> new Shies(w, k, traced);
            case 3 -> new Takes(w, k, traced);
            case 4 -> new Mirrors(w, k, traced);
            case 5 -> new Louds(w, k, traced);
            case 6 -> new Fickles(w, k, traced);
            default -> new Walks(w, k, traced);
        };
        return act == 0 ? actor.steps(x) : act == 1 ? actor.meets(x) : actor.takes(x);
    }

    // ---- texts

    /** What a text does to a state: a fault is thrown with its place. */
    static final class Fault extends Exception {
        private static final long serialVersionUID = 1L;
        final int place;

        Fault(int place) {
            this.place = place;
        }
    }

    int streets(int s) {
        int trouble = rowTrouble(s);
        if (trouble != 0) {
            return no(trouble);
        }
        StringBuilder text = new StringBuilder();
        for (long letter : rowOf(s)) {
            int sign = (int) letter;
            text.append(sign >= 0 && sign < 128 ? (char) sign : '?');
        }
        State draft = now.twin();
        try {
            int items = tell(text.toString(), draft);
            now = draft;
            latestFault = -1;
            return items;
        } catch (Fault fault) {
            latestFault = fault.place;
            return no(-6);
        }
    }

    private static int tell(String text, State s) throws Fault {
        int items = 0;
        int begin = 0;
        while (true) {
            begin = tellItem(text, begin, s);
            items++;
            if (begin == text.length()) {
                return items;
            }
            if (text.charAt(begin) != ';') {
                throw new Fault(begin);
            }
            begin++;
        }
    }

    private static int tellItem(String text, int begin, State s) throws Fault {
        List<String> words = List.of("gait", "wall", "open", "walker", "beat");
        int end = begin;
        String read = "";
        while (!words.contains(read)) {
            String longer = end < text.length() ? read + text.charAt(end) : "none";
            if (words.stream().noneMatch(w -> w.startsWith(longer))) {
                throw new Fault(end);
            }
            read = longer;
            end++;
        }
        if (read.equals("gait") && s.gaits.size() == 8 || read.equals("walker") && s.people.size() == 6) {
            throw new Fault(begin);
        }
        int[] pos = {end};
        switch (read) {
            case "gait" -> {
                int wall = number(text, pos, 0, 2);
                blank(text, pos);
                List<Integer> steps = new ArrayList<>();
                while (pos[0] < text.length() && "flrs".indexOf(text.charAt(pos[0])) >= 0) {
                    steps.add("flrs".indexOf(text.charAt(pos[0])));
                    if (steps.size() == 9) {
                        throw new Fault(pos[0]);
                    }
                    pos[0]++;
                }
                if (steps.isEmpty()) {
                    throw new Fault(pos[0]);
                }
                s.gaits.add(new Gait(steps, wall));
            }
            case "wall" -> {
                int first = pos[0] + 1;
                int place = number(text, pos, 0, 48);
                if (s.people.stream().anyMatch(p -> p.body.place == place)) {
                    throw new Fault(first);
                }
                s.walls.add(place);
            }
            case "open" -> s.walls.remove(number(text, pos, 0, 48));
            case "walker" -> {
                int kind = number(text, pos, 0, 6);
                int first = pos[0] + 1;
                int place = number(text, pos, 0, 48);
                if (s.walls.contains(place)) {
                    throw new Fault(first);
                }
                int way = number(text, pos, 0, 3);
                int gait = number(text, pos, 0, s.gaits.size() - 1);
                int a = number(text, pos, 0, 9);
                s.people.add(new Person(kind, a, new Body(place, way, gait, 0, 0)));
            }
            default -> inTruth(s, number(text, pos, 1, 99));
        }
        return pos[0];
    }

    private static void blank(String text, int[] pos) throws Fault {
        if (pos[0] >= text.length() || text.charAt(pos[0]) != ' ') {
            throw new Fault(pos[0]);
        }
        pos[0]++;
    }

    private static int number(String text, int[] pos, int low, int high) throws Fault {
        blank(text, pos);
        int first = pos[0];
        while (pos[0] < text.length() && pos[0] < first + 2 && Character.isDigit(text.charAt(pos[0]))) {
            pos[0]++;
        }
        if (first == pos[0]) {
            throw new Fault(first);
        }
        int number = Integer.parseInt(text.substring(first, pos[0]));
        if (!in(number, low, high)) {
            throw new Fault(first);
        }
        return number;
    }
}
