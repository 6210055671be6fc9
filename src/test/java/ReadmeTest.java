import java.io.IOException;
import java.lang.reflect.InvocationTargetException;
import java.lang.reflect.Method;
import java.nio.charset.StandardCharsets;
import java.nio.file.Files;
import java.nio.file.Path;
import java.util.List;
import java.util.regex.Matcher;
import java.util.regex.Pattern;
import java.util.stream.Stream;

/** README.md holds: its example answers as it says, it knows every test, and what it names is there. */
public final class ReadmeTest {
    private static final Pattern TEXT = Pattern.compile("String text = \"([^\"]+)\";");
    private static final Pattern ASKED = Pattern.compile("(?m)^x\\.(\\w+)\\(([^;]*)\\);\\s+// (-?\\d+)\\b");
    private static final Pattern FILE = Pattern.compile("`(src/\\w+/java/\\w+\\.java|\\w+\\.java|\\.ci/run|\\.\\./shared/[\\w.]+)`");

    private ReadmeTest() {
    }

    public static void main(String[] args) throws Exception {
        String readme = Files.readString(Path.of("README.md"), StandardCharsets.UTF_8);
        example(readme.substring(readme.indexOf("```java"), readme.indexOf("```", readme.indexOf("```java") + 3)));
        namesWhatIsThere(readme);
        namesEveryTest(readme);
        Check.close();
    }

    private static void example(String block) throws IllegalAccessException, InvocationTargetException {
        Matcher text = TEXT.matcher(block);
        Check.holds("README has a text", text.find());
        AsTheLastHeMet x = new AsTheLastHeMet();
        Check.write(x, 0, 0, text.group(1));
        Matcher asked = ASKED.matcher(block);
        int calls = 0;
        while (asked.find()) {
            Check.due("README: " + asked.group(), answer(x, asked.group(1), asked.group(2)), Long.parseLong(asked.group(3)));
            calls++;
        }
        Check.due("calls of README that were tried", calls, block.lines().filter(line -> line.contains("// ")).count());
    }

    private static long answer(AsTheLastHeMet x, String name, String told) throws IllegalAccessException,
            InvocationTargetException {
        Object[] numbers = told.isEmpty() ? new Object[0] : Stream.of(told.split(", ")).map(Integer::valueOf).toArray();
        for (Method call : AsTheLastHeMet.class.getMethods()) {
            if (call.getName().equals(name)) {
                return ((Number) call.invoke(x, numbers)).longValue();
            }
        }
        Check.holds("README's call " + name + " is there", false);
        return AsTheLastHeMet.NONE;
    }

    private static void namesWhatIsThere(String readme) {
        Matcher file = FILE.matcher(readme);
        while (file.find()) {
            String name = file.group(1);
            boolean bare = name.matches("\\w+\\.java");
            Check.holds(name + " of README is there", Files.exists(Path.of(bare ? "src/test/java/" + name : name)));
        }
    }

    private static void namesEveryTest(String readme) throws IOException {
        try (Stream<Path> files = Files.list(Path.of("src/test/java"))) {
            List<String> names = files.map(path -> path.getFileName().toString()).sorted().toList();
            for (String name : names) {
                boolean edges = name.matches("EdgesOf\\w+Test\\.java");
                String sign = edges ? "`" + name.replaceAll("EdgesOf|Test\\.java", "") + "`" : name;
                Check.holds("README knows " + name, readme.contains(sign));
            }
        }
    }
}
