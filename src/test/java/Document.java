import java.io.IOException;
import java.nio.charset.StandardCharsets;
import java.nio.file.Files;
import java.nio.file.Path;
import java.util.Set;
import java.util.TreeSet;
import java.util.regex.Matcher;
import java.util.regex.Pattern;

/** ../shared/DOC.md in sections: 0 is all ahead of the promises, the others are the promises by their numbers. */
final class Document {
    static final int TERMS = 0;
    static final int LAST_PROMISE = 40;
    private static final String TEXT = read();

    private Document() {
    }

    private static String read() {
        try {
            return Files.readString(Path.of("../shared/DOC.md"), StandardCharsets.UTF_8);
        } catch (IOException missing) {
            throw new IllegalStateException("the tests are run where ../shared/DOC.md is, as .ci/run does", missing);
        }
    }

    private static String section(int number) {
        String begin = number == TERMS ? "# AsTheLastHeMet" : "## Promise " + number + ":";
        String end = number == LAST_PROMISE ? "## Not promised" : "## Promise " + (number + 1) + ":";
        return TEXT.substring(TEXT.indexOf(begin), TEXT.indexOf(end));
    }

    private static String withSingleBlanks(String text) {
        return text.replaceAll("\\s+", " ");
    }

    /** Whether a section has these words, wherever its lines break. */
    static boolean says(int number, String words) {
        return withSingleBlanks(section(number)).contains(withSingleBlanks(words));
    }

    /** The numbers with which a promise refuses; what stands in brackets only tells how they are counted. */
    static Set<Integer> refusalsOf(int number) {
        Set<Integer> refusals = new TreeSet<>();
        Matcher found = Pattern.compile("(?<![\\w-])-\\d+").matcher(section(number).replaceAll("[(][^()]*[)]", ""));
        while (found.find()) {
            refusals.add(Integer.parseInt(found.group()));
        }
        return refusals;
    }
}
