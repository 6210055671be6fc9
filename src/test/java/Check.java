/** Counts answers that are not as due; every test of the project ends with close(). */
final class Check {
    private static int asked = 0;
    private static int wrong = 0;

    private Check() {
    }

    static void due(String call, long got, long want) {
        asked++;
        if (got != want) {
            wrong++;
            System.out.println(call + " answered " + got + ", due is " + want);
        }
    }

    static void holds(String what, boolean is) {
        due(what, is ? 1 : 0, 1);
    }

    static void close() {
        System.out.println(wrong == 0 ? "all " + asked + " answers are as due" : wrong + " answers are not as due");
        if (wrong != 0) {
            System.exit(1);
        }
    }

    /** Puts a text, a letter an element, on a shelf. */
    static void write(AsTheLastHeMet x, int shelf, int sort, String text) {
        x.row(shelf, sort, text.length());
        for (int i = 0; i < text.length(); i++) {
            x.set(shelf, i, text.charAt(i));
        }
    }

    /** Puts numbers, as ints, on a shelf. */
    static void fill(AsTheLastHeMet x, int shelf, int... numbers) {
        x.row(shelf, 2, numbers.length);
        for (int i = 0; i < numbers.length; i++) {
            x.set(shelf, i, numbers[i]);
        }
    }

    /** A new object whose streets are told by a text. */
    static AsTheLastHeMet told(String text) {
        AsTheLastHeMet x = new AsTheLastHeMet();
        write(x, 7, 0, text);
        holds("told: " + text, x.streets(7) > 0);
        return x;
    }
}
