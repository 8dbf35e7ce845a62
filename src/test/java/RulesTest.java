import java.io.IOException;
import java.lang.management.ManagementFactory;
import java.lang.reflect.Field;
import java.lang.reflect.Method;
import java.lang.reflect.Modifier;
import java.nio.file.Files;
import java.nio.file.Path;
import java.util.ArrayList;
import java.util.Arrays;
import java.util.List;
import java.util.TreeSet;

/** What of LANGUAGE.md and of the document's face can be seen from outside. */
public final class RulesTest {
    private static final Checks SEEN = new Checks();
    private static final String FACE = "boolean end(int); boolean follow(boolean); boolean free(int, boolean); "
            + "boolean gradient(int, int); boolean image(boolean); boolean kind(int, int); boolean step(int, int, int); "
            + "boolean swap(int, int); boolean turn(int); boolean weight(int, int, int); boolean wish(int, boolean); "
            + "int cogs(int); int counter(int, int); int early(int, int); int fault(int); "
            + "int feed(int, int, int, int, int); int fewest(int); int find(int, int, int, int); int freeAll(int, int); "
            + "int lay(int); int leak(int); int look(int); int lost(int); int many(int, int); int order(int, int); "
            + "int path(int, int); int phase(int, int); int pulses(int, int); int residue(int, int); int rows(); "
            + "int share(int); int soonest(); int spare(int); int stopped(int); int until(int, int); "
            + "int worst(int, int); int would(int, int, int, int, int); long part(int); long power(int)";

    private static final PathCycle[] TOLD = new PathCycle[4];
    private static int asked = 0;

    public static void main(String[] args) throws IOException {
        face();
        classes();
        text();
        room();
        nothingIsThrown();
        SEEN.end("RulesTest");
    }

    /** No call throws, whatever its arguments are and whatever was told. */
    private static void nothingIsThrown() {
        int[] few = {Integer.MIN_VALUE, -1, 0, 1, Integer.MAX_VALUE};
        int[] some = {Integer.MIN_VALUE, Integer.MIN_VALUE + 1, -100, -10, -4, -2, -1, 0, 1, 2, 3, 4, 5, 6, 7, 8, 9, 10, 11,
            12, 13, 20, 23, 24, 25, 40, 48, 49, 59, 60, 200, 400, 401, 512, 513, 2400, 2401, 65536, Integer.MAX_VALUE - 1,
            Integer.MAX_VALUE};
        for (Method m : PathCycle.class.getDeclaredMethods()) {
            if (Modifier.isPublic(m.getModifiers())) {
                int[] values = m.getParameterCount() > 3 ? few : some;
                Object[] arguments = new Object[m.getParameterCount()];
                for (int state = 0; state < 4; state++) {
                    callWithAll(m, arguments, 0, values, state);
                }
            }
        }
    }

    private static void callWithAll(Method m, Object[] arguments, int at, int[] values, int state) {
        if (at == arguments.length) {
            try {
                m.invoke(told(state), arguments);
            } catch (ReflectiveOperationException e) {
                SEEN.due(m.getName() + Arrays.toString(arguments) + " in state " + state + " throws " + e.getCause(), 1, 0);
            }
        } else if (m.getParameterTypes()[at] == boolean.class) {
            for (boolean is : new boolean[] {false, true}) {
                arguments[at] = is;
                callWithAll(m, arguments, at + 1, values, state);
            }
        } else {
            for (int value : values) {
                arguments[at] = value;
                callWithAll(m, arguments, at + 1, values, state);
            }
        }
    }

    /** New; without PATHS; small and full; some of all. A new one in time, for 512 calls are the most. */
    private static PathCycle told(int state) {
        if (asked++ % 400 == 0) {
            Arrays.fill(TOLD, null);
        }
        if (TOLD[state] == null) {
            PathCycle x = new PathCycle();
            TOLD[state] = x;
            if (state == 1) {
                x.pulses(1, 1);
                x.kind(0, 1);
            } else if (state == 2) {
                x.pulses(4, 1);
                x.turn(6);
                x.wish(3, true);
                Tell.lengths(x, 8, 8, 8);
                Tell.tape(x, " ".repeat(400));
            } else if (state == 3) {
                x.image(true);
                x.wish(7, true);
                x.lay(0);
                Tell.rows(x, "p1=1 2;q");
                Tell.tape(x, "p1=1;");
            }
        }
        return TOLD[state];
    }

    private static void face() {
        TreeSet<String> signs = new TreeSet<>();
        TreeSet<String> names = new TreeSet<>();
        List<String> others = new ArrayList<>();
        for (Method m : PathCycle.class.getDeclaredMethods()) {
            if (Modifier.isPublic(m.getModifiers())) {
                String types = Arrays.toString(m.getParameterTypes());
                signs.add(m.getReturnType() + " " + m.getName() + "(" + types.substring(1, types.length() - 1) + ")");
                names.add(m.getName());
            } else {
                others.add(m.getName());
                SEEN.due("private: " + m, Modifier.isPrivate(m.getModifiers()) || m.isSynthetic(), true);
            }
        }
        SEEN.due("the face is " + signs, String.join("; ", signs).equals(FACE), true);
        for (String name : others) {
            SEEN.due("a private method's own name: " + name, names.contains(name), false);
        }
        SEEN.due("constructors", PathCycle.class.getConstructors().length, 1);
        SEEN.due("final", Modifier.isFinal(PathCycle.class.getModifiers()), true);
    }

    private static void classes() {
        List<Class<?>> all = new ArrayList<>(List.of(PathCycle.class.getDeclaredClasses()));
        for (Class<?> one : all) {
            SEEN.due("static: " + one, Modifier.isStatic(one.getModifiers()), true);
        }
        all.add(PathCycle.class);
        SEEN.due("some twelve classes: " + all.size(), all.size() <= 12, true);
        for (Class<?> one : all) {
            int fields = 0;
            for (Field f : one.getDeclaredFields()) {
                if (Modifier.isStatic(f.getModifiers())) {
                    SEEN.due("final: " + f, Modifier.isFinal(f.getModifiers()), true);
                } else {
                    fields++;
                }
            }
            SEEN.due("some twenty fields in " + one + ": " + fields, fields <= 20, true);
            for (Method m : one.getDeclaredMethods()) {
                SEEN.due("seven parameters: " + m, m.getParameterCount() <= 7, true);
            }
        }
    }

    private static void text() throws IOException {
        String text = Files.readString(Path.of("src/main/java/PathCycle.java"));
        String[] words = {"->", "::", "synchronized", "assert", "finally", "catch", "throw", "Exact(", "Float.",
            "Double.", "System.out", "nanoTime", "Random", "Thread", "instanceof", "package ", "@Override", "static {",
            "hashCode", "toString", "String"};
        for (String word : words) {
            SEEN.due("the text holds " + word, text.contains(word), false);
        }
        for (String line : text.split("\n")) {
            SEEN.due("an import: " + line, line.startsWith("import") && !line.equals("import java.util.Arrays;"), false);
            SEEN.due("signs: " + line, line.chars().allMatch(c -> c >= 32 && c < 127), true);
        }
        int lines = 0;
        String indent = null;
        for (String line : text.split("\n")) {
            lines++;
            if (indent != null && line.equals(indent + "}")) {
                SEEN.due("sixty lines at most ahead of " + line, lines <= 60, true);
                indent = null;
            } else if (indent == null && line.matches("( {4}| {8})[^ /*].*\\) \\{")) {
                indent = line.substring(0, line.length() - line.stripLeading().length());
                lines = 1;
            }
        }
    }

    /** One room holds all calls of a run: calls make nothing, and a new object little. */
    private static void room() {
        long before = made();
        PathCycle x = new PathCycle();
        long object = made() - before;
        SEEN.due("a new object's bytes: " + object, object < 400_000, true);
        calls(x);
        before = made();
        calls(x);
        long calls = made() - before;
        SEEN.due("bytes made by calls: " + calls, calls < 20_000, true);
    }

    private static long made() {
        return ((com.sun.management.ThreadMXBean) ManagementFactory.getThreadMXBean()).getCurrentThreadAllocatedBytes();
    }

    private static void calls(PathCycle x) {
        x.pulses(5, 2);
        x.turn(12);
        x.wish(3, true);
        for (int i = 0; i < 6; i++) {
            x.counter(i % 4, 2 + i % 3);
            x.step(i % 6, i % 4, i);
            x.feed(0x70313d31, 0x3b202020, 0x20202020, 0x20202020, 0x20202020);
            x.rows();
            x.leak(-1);
            x.worst(i, 0);
            x.kind(i % 5, i % 3);
            x.wish(i, true);
            x.spare(i % 4);
            x.soonest();
            x.fewest(10);
            x.cogs(10);
            x.would(1, 2, 1, 2, 1);
            x.share(i);
            x.part(i);
            x.image(i % 2 == 0);
            x.look(9);
            x.until(1, 1);
            x.stopped(1);
            x.lay(i % 2);
            x.power(1);
        }
    }
}
