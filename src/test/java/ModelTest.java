import java.util.ArrayList;
import java.util.List;
import java.util.Random;

/** Holds the class against Model by long runs of calls, drawn anew from the same seeds each time. */
public final class ModelTest {
    private static final String[] CALLS = {
        "row", "set", "copy", "element", "show", "holds", "says", "gait", "gaitOf", "walker", "walkerOf", "wall",
        "isWall", "streets", "fault", "at", "have", "survives", "lost", "comes", "meet", "meetings", "ring", "alone",
        "alike", "hire", "fit", "began", "thief", "beat", "strangers", "goes", "teach", "seed", "act", "trace",
        "image", "restore", "status"};
    private static final int RUNS = 240;

    private static final List<String> NAMES = List.of(CALLS);
    /** How often each call was answered and not refused, and with a number above 0. */
    private static final int[] ANSWERED = new int[CALLS.length];
    private static final int[] ABOVE_0 = new int[CALLS.length];

    private final Random draws;
    private final AsTheLastHeMet x = new AsTheLastHeMet();
    private final Model model = new Model();
    private final List<String> told = new ArrayList<>();
    private int calls = 0;
    private boolean failed = false;

    private ModelTest(long seed) {
        draws = new Random(seed);
    }

    public static void main(String[] args) {
        int answered = 0;
        for (int run = 0; run < RUNS; run++) {
            ModelTest test = new ModelTest(run);
            test.run();
            answered += test.calls;
        }
        for (int k = 0; k < CALLS.length; k++) {
            Check.holds(CALLS[k] + " was asked, and not refused, often enough", ANSWERED[k] >= 100);
            boolean never = CALLS[k].equals("seed");
            Check.holds(CALLS[k] + " had answers above 0 often enough", never || ABOVE_0[k] >= 50);
        }
        System.out.println(answered + " calls held against the model");
        Check.close();
    }

    private void run() {
        begin();
        while (calls < 500 && !failed) {
            int k = draws.nextInt(CALLS.length);
            String name = CALLS[k];
            fill();
            boolean rare = List.of("goes", "restore").contains(name) && draws.nextInt(3) > 0;
            if (rare) {
                continue;
            }
            if (name.equals("streets") && draws.nextInt(4) > 0) {
                text();
            } else if ((name.equals("fit") || name.equals("began")) && draws.nextInt(4) > 0) {
                sights(name);
            } else if (name.equals("gait") && draws.nextInt(4) > 0) {
                steps();
            } else {
                if (name.equals("says")) {
                    ask("show", draws.nextInt(2), draws.nextInt(6));
                }
                int few = 1 + draws.nextInt(3);
                while (name.equals("hire") && draws.nextInt(8) > 0 && model.now.people.size() > few) {
                    ask("goes");
                }
                ask(name, arguments(name));
            }
        }
    }

    /** Now and then walkers come to where others are: there is more to meet. */
    private void fill() {
        int walkers = model.now.people.size();
        if (walkers > 0 && walkers < 5 && draws.nextInt(6) == 0) {
            Model.Body there = model.now.people.get(draws.nextInt(walkers)).body();
            int place = Math.min(48, Math.max(0, there.place() + draws.nextInt(5) - 2));
            ask("walker", draws.nextInt(7), place, draws.nextInt(4), draws.nextInt(4), draws.nextInt(10));
        }
    }

    private void begin() {
        int walls = draws.nextBoolean() ? 0 : draws.nextInt(40);
        for (int i = 0; i < walls; i++) {
            ask("wall", draws.nextInt(49), 1);
        }
        int gaits = draws.nextInt(5);
        for (int g = 0; g < gaits; g++) {
            steps();
        }
        int walkers = draws.nextInt(6);
        for (int w = 0; w < walkers; w++) {
            ask("walker", draws.nextInt(7), draws.nextInt(49), draws.nextInt(4), draws.nextInt(4), draws.nextInt(10));
        }
    }

    private void steps() {
        int n = 1 + draws.nextInt(draws.nextInt(8) == 0 ? 9 : 4);
        int shelf = draws.nextInt(8);
        ask("row", shelf, draws.nextInt(4), n);
        for (int i = 0; i < n; i++) {
            ask("set", shelf, i, draws.nextInt(40) == 0 ? 4 : draws.nextInt(2) * draws.nextInt(4));
        }
        ask("gait", shelf, n, draws.nextInt(3));
    }

    private void sights(String name) {
        int n = 1 + draws.nextInt(2);
        int shelf = draws.nextInt(8);
        ask("row", shelf, 2, 3 * n);
        for (int i = 0; i < n; i++) {
            int beat = draws.nextInt(20);
            int w = draws.nextInt(6);
            Model.State then = model.now.twin();
            then.goBeats(beat);
            boolean real = draws.nextInt(5) > 0 && w < then.people.size();
            ask("set", shelf, 3 * i, beat);
            ask("set", shelf, 3 * i + 1, real ? then.people.get(w).body().place() : draws.nextInt(49));
            ask("set", shelf, 3 * i + 2, real ? then.people.get(w).body().gait() : draws.nextInt(3));
        }
        if (name.equals("fit")) {
            ask("fit", shelf, n);
        } else {
            ask("began", shelf, n, draws.nextInt(4));
        }
    }

    private void text() {
        StringBuilder text = new StringBuilder(item());
        int more = draws.nextInt(4);
        for (int i = 0; i < more && text.length() < 120; i++) {
            text.append(';').append(item());
        }
        int harm = draws.nextInt(3);
        int place = draws.nextInt(text.length());
        if (harm == 0 && draws.nextBoolean()) {
            text.setCharAt(place, "0123456789 ;flrsgaiwtbeopnk".charAt(draws.nextInt(27)));
        } else if (harm == 1 && draws.nextBoolean()) {
            text.setLength(place);
        } else if (harm == 2 && draws.nextInt(4) == 0) {
            text.insert(place, "0 ;fw".charAt(draws.nextInt(5)));
        }
        int shelf = draws.nextInt(8);
        ask("row", shelf, draws.nextInt(4), text.length());
        for (int i = 0; i < text.length(); i++) {
            // The class' 512 calls are spared for what is asked: most letters are not answered for.
            x.set(shelf, i, text.charAt(i));
            model.set(shelf, i, text.charAt(i));
        }
        told.add("  that text: " + text);
        ask("streets", shelf);
        ask("fault");
    }

    private String item() {
        switch (draws.nextInt(5)) {
            case 0: {
                StringBuilder steps = new StringBuilder("gait " + number(3) + " ");
                int n = 1 + draws.nextInt(draws.nextInt(5) == 0 ? 9 : 4);
                for (int i = 0; i < n; i++) {
                    steps.append("ffflrs".charAt(draws.nextInt(6)));
                }
                return steps.toString();
            }
            case 1: return "wall " + number(49);
            case 2: return "open " + number(49);
            case 3: return "walker " + number(7) + " " + number(49) + " " + number(4) + " " + number(3) + " "
                    + number(10);
            default: return "beat " + number(30);
        }
    }

    private String number(int below) {
        int number = draws.nextInt(draws.nextInt(30) == 0 ? 100 : below);
        return (number < 10 && draws.nextInt(10) == 0 ? "0" : "") + number;
    }

    private long[] arguments(String name) {
        switch (name) {
            case "row": return new long[] {some(8), some(4), draws.nextInt(8) == 0 ? some(161) : draws.nextInt(20)};
            case "set": return new long[] {some(8), some(20), draws.nextBoolean() ? draws.nextInt(4) : draws.nextLong()};
            case "copy": {
                long from = some(8);
                return new long[] {from, draws.nextBoolean() ? from : some(8), some(8), some(8), some(8)};
            }
            case "element": return new long[] {some(8), some(20)};
            case "show": return new long[] {some(8), draws.nextInt(4) == 0 ? -1 : some(6)};
            case "holds": return new long[] {some(8)};
            case "says": return new long[] {some(2), some(7)};
            case "gait": return new long[] {some(8), some(9), some(3)};
            case "gaitOf": return new long[] {some(8), draws.nextInt(14) - 3};
            case "walker": return new long[] {some(7), some(49), some(4), some(8), some(10)};
            case "walkerOf": return new long[] {some(6), some(7)};
            case "wall": return new long[] {some(49), draws.nextInt(2)};
            case "isWall": return new long[] {some(49)};
            case "streets": return new long[] {some(8)};
            case "at":
            case "alone": return new long[] {beats(), some(6), some(5)};
            case "have": return new long[] {beats(), some(8)};
            case "survives":
            case "meetings": return new long[] {beats()};
            case "lost": return new long[] {some(8)};
            case "comes": return new long[] {some(8), some(6)};
            case "meet": return new long[] {some(6), some(6)};
            case "ring": return new long[] {some(2)};
            case "hire": return new long[] {some(4), some(2)};
            case "fit": return new long[] {some(8), some(11)};
            case "began": return new long[] {some(8), some(11), some(6)};
            case "thief": return new long[] {some(8), beats()};
            case "beat": return new long[] {draws.nextInt(10) == 0 ? draws.nextInt(102) - 1 : 1 + draws.nextInt(9)};
            case "strangers": return new long[] {some(7)};
            case "teach": return new long[] {some(6), some(8)};
            case "seed": return new long[] {draws.nextInt()};
            case "act": return new long[] {some(6), some(3), draws.nextInt()};
            case "trace": return new long[] {some(9)};
            case "status": return new long[] {draws.nextInt(21) - 1};
            default: return new long[0];
        }
    }

    /** Mostly a number from 0 on below a bound, now and then one beside that. */
    private long some(int below) {
        switch (draws.nextInt(20)) {
            case 0: return below;
            case 1: return -1;
            case 2: return draws.nextInt(20) == 0 ? draws.nextInt() : 0;
            default: return draws.nextInt(below);
        }
    }

    private long beats() {
        return draws.nextInt(10) == 0 ? draws.nextInt(404) - 1 : draws.nextInt(60);
    }

    private long ask(String name, long... v) {
        calls++;
        StringBuilder call = new StringBuilder(name + "(");
        for (int i = 0; i < v.length; i++) {
            call.append(i == 0 ? "" : ", ").append(v[i]);
        }
        call.append(")");
        long want = model.call(name, v);
        long got = answer(name, v);
        told.add("  " + call + " " + want);
        int k = NAMES.indexOf(name);
        boolean mayBeBelow = List.of("element", "act", "seed").contains(name);
        ANSWERED[k] += want >= 0 || mayBeBelow ? 1 : 0;
        ABOVE_0[k] += want > 0 ? 1 : 0;
        if (got != want && !failed) {
            failed = true;
            told.forEach(System.out::println);
        }
        Check.due(call.toString(), got, want);
        return want;
    }

    private long answer(String name, long[] v) {
        int[] i = new int[7];
        for (int k = 0; k < v.length; k++) {
            i[k] = (int) v[k];
        }
        switch (name) {
            case "row": return x.row(i[0], i[1], i[2]);
            case "set": return x.set(i[0], i[1], v[2]);
            case "copy": return x.copy(i[0], i[1], i[2], i[3], i[4]);
            case "element": return x.element(i[0], i[1]);
            case "show": return x.show(i[0], i[1]);
            case "holds": return x.holds(i[0]);
            case "says": return x.says(i[0], i[1]);
            case "gait": return x.gait(i[0], i[1], i[2]);
            case "gaitOf": return x.gaitOf(i[0], i[1]);
            case "walker": return x.walker(i[0], i[1], i[2], i[3], i[4]);
            case "walkerOf": return x.walkerOf(i[0], i[1]);
            case "wall": return x.wall(i[0], i[1] != 0);
            case "isWall": return x.isWall(i[0]);
            case "streets": return x.streets(i[0]);
            case "fault": return x.fault();
            case "at": return x.at(i[0], i[1], i[2]);
            case "have": return x.have(i[0], i[1]);
            case "survives": return x.survives(i[0]);
            case "lost": return x.lost(i[0]);
            case "comes": return x.comes(i[0], i[1]);
            case "meet": return x.meet(i[0], i[1]);
            case "meetings": return x.meetings(i[0]);
            case "ring": return x.ring(i[0]);
            case "alone": return x.alone(i[0], i[1], i[2]);
            case "alike": return x.alike();
            case "hire": return x.hire(i[0], i[1]);
            case "fit": return x.fit(i[0], i[1]);
            case "began": return x.began(i[0], i[1], i[2]);
            case "thief": return x.thief(i[0], i[1]);
            case "beat": return x.beat(i[0]);
            case "strangers": return x.strangers(i[0]);
            case "goes": return x.goes();
            case "teach": return x.teach(i[0], i[1]);
            case "seed": return x.seed(i[0]);
            case "act": return x.act(i[0], i[1], i[2]);
            case "trace": return x.trace(i[0]);
            case "image": return x.image();
            case "restore": return x.restore();
            case "status": return x.status(i[0]);
            default: throw new IllegalArgumentException(name);
        }
    }
}
