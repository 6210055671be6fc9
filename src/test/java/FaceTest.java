import java.io.IOException;
import java.lang.management.ManagementFactory;
import java.lang.reflect.Constructor;
import java.lang.reflect.Field;
import java.lang.reflect.InvocationTargetException;
import java.lang.reflect.Method;
import java.lang.reflect.Modifier;
import java.nio.charset.StandardCharsets;
import java.nio.file.Files;
import java.nio.file.Path;
import java.util.ArrayList;
import java.util.Comparator;
import java.util.HashSet;
import java.util.List;
import java.util.Random;
import java.util.Set;
import java.util.regex.Pattern;

/** The face of the class, that no call ever throws, what calls make, and rules of LANGUAGE.md that can be seen from outside. */
public final class FaceTest {
    private static final long[] EDGES = {
        Long.MIN_VALUE, Integer.MIN_VALUE, -401, -100, -11, -2, -1, 0, 1, 2, 3, 5, 6, 7, 8, 9, 10, 48, 49, 50, 63, 64, 99,
        100, 159, 160, 161, 400, 401, Integer.MAX_VALUE - 1, Integer.MAX_VALUE, Long.MAX_VALUE};

    private FaceTest() {
    }

    public static void main(String[] args) throws Exception {
        face();
        sourceKeepsToTheLanguage();
        neverThrows();
        makesNothing();
        Check.close();
    }

    private static List<Method> calls() {
        List<Method> calls = new ArrayList<>();
        for (Method method : AsTheLastHeMet.class.getDeclaredMethods()) {
            if (Modifier.isPublic(method.getModifiers())) {
                calls.add(method);
            }
        }
        calls.sort(Comparator.comparing(Method::getName));
        return calls;
    }

    private static void face() {
        Check.holds("a public and final class", Modifier.isPublic(AsTheLastHeMet.class.getModifiers())
                && Modifier.isFinal(AsTheLastHeMet.class.getModifiers()));
        Check.due("public calls", calls().size(), 39);
        Set<String> names = new HashSet<>();
        for (Method call : calls()) {
            names.add(call.getName());
        }
        for (Method method : AsTheLastHeMet.class.getDeclaredMethods()) {
            Check.holds(method + " is private or of the face", Modifier.isPrivate(method.getModifiers())
                    || Modifier.isPublic(method.getModifiers()));
            Check.holds(method.getName() + " bears no name of the face", !Modifier.isPrivate(method.getModifiers())
                    || !names.contains(method.getName()));
        }
        for (Field field : AsTheLastHeMet.class.getDeclaredFields()) {
            Check.holds(field + " is private or NONE", Modifier.isPrivate(field.getModifiers())
                    || field.getName().equals("NONE"));
            Check.holds(field + " is final if static", !Modifier.isStatic(field.getModifiers())
                    || Modifier.isFinal(field.getModifiers()));
        }
        Constructor<?>[] makers = AsTheLastHeMet.class.getDeclaredConstructors();
        Check.due("constructors", makers.length, 1);
        Check.due("its parameters", makers[0].getParameterCount(), 0);
        for (Class<?> inside : AsTheLastHeMet.class.getDeclaredClasses()) {
            Check.holds(inside + " is static", Modifier.isStatic(inside.getModifiers()));
            for (Method method : inside.getDeclaredMethods()) {
                Check.holds(method + " bears no name of the face", !names.contains(method.getName()));
                Check.holds(method + " has seven parameters at most", method.getParameterCount() <= 7);
            }
        }
        Check.holds("some twelve classes at most", AsTheLastHeMet.class.getDeclaredClasses().length <= 11);
    }

    private static void sourceKeepsToTheLanguage() throws IOException {
        String source = Files.readString(Path.of("src/main/java/AsTheLastHeMet.java"), StandardCharsets.UTF_8);
        String[] ruledOut = {
            "import ", "package ", "try [{(]", "catch ", "throws? ", "finally ", "->", "::", "synchronized ", "assert ",
            "instanceof ", "[a-z]Exact[(]", "Random", "currentTime", "nanoTime", "System.out", "Thread", "Object ",
            "toString", "hashCode", "equals[(]", "HashMap", "double ", "float ", "protected "};
        for (String word : ruledOut) {
            Check.holds("no '" + word + "' in the class", !Pattern.compile("\\b" + word).matcher(source).find()
                    && !source.contains(word));
        }
        for (int i = 0; i < source.length(); i++) {
            Check.holds("signs of the source are 1 to 126", source.charAt(i) > 0 && source.charAt(i) < 127);
        }
    }

    private static Object[] drawn(Method call, Random draws) {
        Class<?>[] kinds = call.getParameterTypes();
        Object[] arguments = new Object[kinds.length];
        for (int i = 0; i < kinds.length; i++) {
            boolean wild = draws.nextInt(12) == 0;
            long v = wild ? EDGES[draws.nextInt(EDGES.length)] : draws.nextInt(draws.nextBoolean() ? 4 : 9);
            if (kinds[i] == boolean.class) {
                arguments[i] = draws.nextBoolean();
            } else if (kinds[i] == long.class) {
                arguments[i] = v;
            } else {
                arguments[i] = (int) v;
            }
        }
        return arguments;
    }

    /** Wild calls on two objects: none throws, and both answer alike. */
    private static void neverThrows() throws IllegalAccessException {
        List<Method> calls = calls();
        Random draws = new Random(7);
        for (int run = 0; run < 300; run++) {
            AsTheLastHeMet x = new AsTheLastHeMet();
            AsTheLastHeMet y = new AsTheLastHeMet();
            for (int i = 0; i < 512; i++) {
                Method call = calls.get(draws.nextInt(calls.size()));
                Object[] arguments = drawn(call, draws);
                try {
                    Object first = call.invoke(x, arguments);
                    Check.holds(call.getName() + " answers alike", first.equals(call.invoke(y, arguments)));
                } catch (InvocationTargetException thrown) {
                    Check.holds(call.getName() + " threw " + thrown.getCause(), false);
                }
            }
        }
    }

    /** All calls of a run live in one room: the dearest calls make nothing, a new object some thirty thousand bytes. */
    private static void makesNothing() {
        var threads = (com.sun.management.ThreadMXBean) ManagementFactory.getThreadMXBean();
        long before = threads.getCurrentThreadAllocatedBytes();
        AsTheLastHeMet x = new AsTheLastHeMet();
        long made = threads.getCurrentThreadAllocatedBytes() - before;
        Check.holds("a new object takes less than 40000 bytes, not " + made, made < 40_000);
        Check.write(x, 0, 0, "gait 0 fl;gait 1 s;wall 9;walker 0 1 0 0 0;walker 6 1 0 0 5;walker 5 1 0 1 0");
        Check.fill(x, 1, 5, 5, 0);
        for (int round = 0; round < 2; round++) {
            before = threads.getCurrentThreadAllocatedBytes();
            x.image();
            x.streets(0);
            x.row(2, 3, 160);
            x.copy(0, 0, 1, 2, 8);
            x.hire(0, 0);
            x.ring(0);
            x.began(1, 1, 0);
            x.at(400, 0, 0);
            x.beat(99);
            x.strangers(1);
            x.act(1, 2, 5);
            x.restore();
            made = threads.getCurrentThreadAllocatedBytes() - before;
        }
        Check.holds("calls make nothing, not " + made + " bytes", made < 1_000);
    }
}
