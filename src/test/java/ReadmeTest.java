import java.io.IOException;
import java.lang.reflect.Method;
import java.nio.file.Files;
import java.nio.file.Path;
import java.util.HashMap;
import java.util.Map;
import java.util.regex.Matcher;
import java.util.regex.Pattern;

/** README.md says how to use the class: its example answers what it says, its tables name every call. */
public final class ReadmeTest {
    private static final Checks SEEN = new Checks();

    public static void main(String[] args) throws IOException, ReflectiveOperationException {
        String readme = Files.readString(Path.of("README.md"));
        String document = Files.readString(Path.of("../shared/DOC.md"));
        example(readme);
        everyCallHasARow(readme, document);
        everyPromiseHasARow(readme, document);
        saysHowToRunItsTests(readme);
        SEEN.end("ReadmeTest");
    }

    /** Runs the lines of the example one by one: each tells its answer ahead of a colon. */
    private static void example(String readme) throws ReflectiveOperationException {
        Matcher block = Pattern.compile("```java\n(.*?)```", Pattern.DOTALL).matcher(readme);
        SEEN.due("README.md has an example", block.find(), true);
        String[] lines = block.group(1).split("\n");
        SEEN.due(lines[0], lines[0].startsWith("PathCycle cycle = new PathCycle();"), true);
        Pattern form = Pattern.compile("(?:int (\\w+) = )?cycle\\.(\\w+)\\((.*?)\\); +// (-?\\d+|true|false): .*");
        PathCycle cycle = new PathCycle();
        Map<String, Object> known = new HashMap<>(Map.of("PathCycle.NONE", PathCycle.NONE, "true", true, "false", false));
        for (int i = 1; i < lines.length; i++) {
            Matcher line = form.matcher(lines[i]);
            SEEN.due("a call and its answer: " + lines[i], line.matches(), true);
            Object answer = ask(cycle, line.group(2), line.group(3), known);
            SEEN.due(lines[i] + " not " + answer, answer.toString().equals(line.group(4)), true);
            known.put(line.group(1), answer);
        }
    }

    private static Object ask(PathCycle cycle, String name, String written, Map<String, Object> known)
            throws ReflectiveOperationException {
        String[] words = written.isEmpty() ? new String[0] : written.split(", ");
        Object[] arguments = new Object[words.length];
        for (int i = 0; i < words.length; i++) {
            arguments[i] = known.containsKey(words[i]) ? known.get(words[i]) : Integer.decode(words[i]);
        }
        for (Method m : PathCycle.class.getMethods()) {
            if (m.getDeclaringClass() == PathCycle.class && m.getName().equals(name)) {
                return m.invoke(cycle, arguments);
            }
        }
        throw new NoSuchMethodException(name);
    }

    /** The document's public face, without the types. */
    private static void everyCallHasARow(String readme, String document) {
        Matcher face = Pattern.compile("^    public (?:\\w+ )?(\\w+)\\((.*)\\);$", Pattern.MULTILINE).matcher(document);
        int calls = 0;
        while (face.find()) {
            calls++;
            String call = face.group(1) + "(" + face.group(2).replaceAll("\\w+ (\\w+)", "$1") + ")";
            SEEN.due("a row of README.md for " + call, readme.contains(" | `" + call + "` | "), true);
        }
        SEEN.due("calls of the face", calls, 40);
    }

    private static void everyPromiseHasARow(String readme, String document) {
        Matcher promise = Pattern.compile("^## Promise (\\d+): .*\n\n`(?:\\w+ )?(\\w+)\\(", Pattern.MULTILINE).matcher(document);
        int promises = 0;
        while (promise.find()) {
            promises++;
            String row = "\n| " + promise.group(1) + " | `" + promise.group(2) + "(";
            SEEN.due("a row of README.md like" + row, readme.contains(row), true);
        }
        SEEN.due("promises", promises, 40);
    }

    private static void saysHowToRunItsTests(String readme) throws IOException {
        SEEN.due("README.md names .ci/run", readme.contains("`.ci/run`"), true);
        SEEN.due("README.md names the document", readme.contains("`../shared/DOC.md`"), true);
        try (var files = Files.list(Path.of("src/test/java"))) {
            for (Path file : files.toList()) {
                String name = file.getFileName().toString().replace(".java", "");
                if (name.endsWith("Test")) {
                    SEEN.due("README.md names " + name, readme.contains("`" + name), true);
                }
            }
        }
    }
}
