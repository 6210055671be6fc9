import java.util.ArrayList;
import java.util.HashMap;
import java.util.List;
import java.util.Map;
import java.util.Set;
import java.util.TreeSet;
import java.util.function.Supplier;

/**
 * What the tests of the edges share: each edge begins with the sentence of the document that names it, and each call is
 * asked of an object of its own.
 */
final class Edge {
    interface Call {
        long of(AsTheLastHeMet x);
    }

    private static final Map<Integer, Set<Integer>> REFUSED = new HashMap<>();
    private static final Set<Integer> QUOTED = new TreeSet<>();
    private static Supplier<AsTheLastHeMet> world = Worlds::usual;
    private static int promise = Document.TERMS;
    private static String words = "";
    private static int checks = 1;

    private Edge() {
    }

    /** What follows is of a promise, or of the terms, in the usual world. */
    static void promise(int number) {
        endSentence();
        promise = number;
        words = "";
        checks = 1;
        world = Worlds::usual;
    }

    /** What follows is of this sentence of the promise. */
    static void says(String sentence) {
        begin(promise, sentence);
        QUOTED.add(promise);
    }

    /** What follows is of this sentence of the terms, as it bears on the promise. */
    static void terms(String sentence) {
        begin(Document.TERMS, sentence);
        QUOTED.add(promise);
    }

    private static void begin(int section, String sentence) {
        endSentence();
        words = sentence;
        checks = 0;
        if (!Document.says(section, sentence)) {
            Check.due("the document's section " + section + " says '" + sentence + "'", 0, 1);
        }
    }

    private static void endSentence() {
        if (checks == 0) {
            Check.due("an edge has been tried of promise " + promise + ", '" + words + "'", 0, 1);
        }
    }

    /** The calls that follow are asked of objects made so. */
    static void in(Supplier<AsTheLastHeMet> made) {
        world = made;
    }

    static void in(String text) {
        world = () -> Check.told(text);
    }

    static void due(String call, long got, long want) {
        checks++;
        // The line is looked for only where it is to be printed.
        Check.due(got == want ? call : place() + ": " + call, got, want);
    }

    private static String place() {
        for (StackTraceElement frame : new Throwable().getStackTrace()) {
            if (!frame.getClassName().equals("Edge")) {
                return "promise " + promise + ", '" + words + "' (" + frame.getFileName() + ":" + frame.getLineNumber() + ")";
            }
        }
        return words;
    }

    static void holds(String what, boolean is) {
        due(what, is ? 1 : 0, 1);
    }

    /** A call that is answered: nothing is refused. */
    static void answers(long want, Call call) {
        AsTheLastHeMet x = world.get();
        long[] before = refusals(x);
        due("the call", call.of(x), want);
        refusedBetween(x, before, 0);
    }

    /** What is answered behind another call; neither of them is refused. */
    static void leads(long want, Call first, Call then) {
        answers(want, x -> {
            first.of(x);
            return then.of(x);
        });
    }

    /** A call that is answered and changes nothing. */
    static void leaves(long want, Call call) {
        AsTheLastHeMet x = world.get();
        long[] before = refusals(x);
        due("the call", call.of(x), want);
        refusedBetween(x, before, 0);
        sameAs(x, world.get());
    }

    /** A call that is refused: it is counted by its number, and nothing else changes. */
    static void refused(int want, Call call) {
        AsTheLastHeMet x = world.get();
        long[] before = refusals(x);
        due("the refusal", call.of(x), want);
        refusedBetween(x, before, want < -10 ? -10 - want : -want);
        sameAs(x, world.get());
        REFUSED.computeIfAbsent(promise, none -> new TreeSet<>()).add(want);
    }

    /** A text with a fault: it is refused, the fault is told, and nothing else changes. */
    static void faulty(int fault, String text) {
        AsTheLastHeMet x = world.get();
        AsTheLastHeMet y = world.get();
        Check.write(x, 7, 0, text);
        Check.write(y, 7, 0, text);
        long[] before = refusals(x);
        due("streets of '" + text + "'", x.streets(7), -6);
        due("fault of '" + text + "'", x.fault(), fault);
        refusedBetween(x, before, 6);
        sameButFault(x, y);
        REFUSED.computeIfAbsent(promise, none -> new TreeSet<>()).add(-6);
    }

    /** A text without a fault, told to a new world: that world. */
    static AsTheLastHeMet told(int items, String text) {
        AsTheLastHeMet x = world.get();
        Check.write(x, 7, 0, text);
        long[] before = refusals(x);
        due("streets of '" + text + "'", x.streets(7), items);
        due("fault of '" + text + "'", x.fault(), -1);
        refusedBetween(x, before, 0);
        return x;
    }

    private static long[] refusals(AsTheLastHeMet x) {
        long[] many = new long[8];
        for (int number = 1; number <= 7; number++) {
            many[number] = x.status(10 + number);
        }
        return many;
    }

    private static void refusedBetween(AsTheLastHeMet x, long[] before, int number) {
        long[] now = refusals(x);
        for (int i = 1; i <= 7; i++) {
            due("refusals -" + i, now[i], before[i] + (i == number ? 1 : 0));
        }
    }

    /** Two objects of which one was asked more: all that can be seen is the same, and what the image has, too. */
    static void sameAs(AsTheLastHeMet x, AsTheLastHeMet y) {
        due("the fault", x.fault(), y.fault());
        sameButFault(x, y);
    }

    private static void sameButFault(AsTheLastHeMet x, AsTheLastHeMet y) {
        sameSeen(x, y);
        due("restore", x.restore(), y.restore());
        sameSeen(x, y);
    }

    private static void sameSeen(AsTheLastHeMet x, AsTheLastHeMet y) {
        List<Long> one = seen(x);
        List<Long> other = seen(y);
        holds("nothing changes: " + one + " and " + other, one.equals(other));
    }

    /** All that can be seen of an object, but refusals and the fault, by calls that are not refused. */
    static List<Long> seen(AsTheLastHeMet x) {
        List<Long> all = new ArrayList<>();
        for (int what = 0; what <= 6; what++) {
            all.add((long) x.status(what));
        }
        for (int place = 0; place < 49; place++) {
            all.add((long) x.isWall(place));
        }
        for (int gait = 0; gait < x.status(0); gait++) {
            for (int what = -2; what < x.gaitOf(gait, -1); what++) {
                all.add((long) x.gaitOf(gait, what));
            }
        }
        for (int walker = 0; walker < x.status(1); walker++) {
            for (int what = 0; what < 7; what++) {
                all.add((long) x.walkerOf(walker, what));
            }
        }
        for (int shelf = 0; shelf < 8; shelf++) {
            all.add((long) x.holds(shelf));
            for (int i = 0; i < 12; i++) {
                all.add(x.element(shelf, i));
            }
        }
        for (int i = 0; i < 9; i++) {
            all.add((long) x.trace(i));
        }
        return all;
    }

    /** Ends a test of the terms alone. */
    static void close() {
        endSentence();
        Check.close();
    }

    /** Ends the test: promises first to last all had their sentences, and each refusal that they list was met. */
    static void close(int first, int last) {
        endSentence();
        for (int number = first; number <= last; number++) {
            Check.holds("an edge of promise " + number + " has been tried", QUOTED.contains(number));
            Set<Integer> missing = Document.refusalsOf(number);
            missing.removeAll(REFUSED.getOrDefault(number, Set.of()));
            Check.holds("promise " + number + " refused with each of its numbers, but for " + missing, missing.isEmpty());
        }
        Check.close();
    }
}
