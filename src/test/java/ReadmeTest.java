import java.lang.reflect.Method;
import java.nio.file.Files;
import java.nio.file.Path;
import java.util.Arrays;
import java.util.Map;
import java.util.TreeMap;
import java.util.TreeSet;
import java.util.regex.Matcher;
import java.util.regex.Pattern;
import java.util.stream.Stream;

/** README.md says what holds: its example answers so, and of each call it has what the document refuses. */
public final class ReadmeTest {
    private static final Checks c = new Checks();
    private static final Path README = Path.of("README.md");
    private static final Path DOCUMENT = Path.of("../shared/DOC.md");
    private static final Pattern CALL = Pattern.compile("x\\.(\\w+)\\(([-0-9, ]*)\\); +// (-?\\d+)");
    private static final Pattern LINE = Pattern.compile("(?m)^\\| `(\\w+)\\(([^)]*)\\)` \\| .+ \\| ([A-Z, ]*)\\|$");
    private static final Pattern REFUSAL = Pattern.compile("\\b(BAD|FULL|STATE|NOTHING|BEYOND|UNLIKE|NOUGHT|SIZE)\\b");

    private static final Map<String, Method> FACE = new TreeMap<>();

    public static void main(String[] args) throws Exception {
        for (Method m : LimpMirror.class.getDeclaredMethods()) {
            if (java.lang.reflect.Modifier.isPublic(m.getModifiers())) {
                FACE.put(m.getName(), m);
            }
        }
        String readme = Files.readString(README);
        example(readme);
        calls(readme);
        tests(readme);
        c.end();
    }

    private static void example(String readme) throws Exception {
        Matcher room = Pattern.compile("String room = \"(.*)\"").matcher(readme);
        c.due("the example has a room", room.find() ? 1 : 0, 1);
        LimpMirror x = new LimpMirror();
        Checks.write(x, 0, room.group(1));
        Matcher call = CALL.matcher(readme);
        int calls = 0;
        while (call.find()) {
            Object[] numbers = Stream.of(call.group(2).split(", ")).filter(n -> !n.isEmpty()).map(Integer::valueOf).toArray();
            Number got = (Number) FACE.get(call.group(1)).invoke(x, numbers);
            c.due("the example's " + call.group(), got.longValue(), Long.parseLong(call.group(3)));
            calls++;
        }
        c.due("the example has calls", calls > 20 ? 1 : 0, 1);
    }

    private static void calls(String readme) throws Exception {
        String document = Files.exists(DOCUMENT) ? Files.readString(DOCUMENT) : null;
        TreeSet<String> said = new TreeSet<>();
        Matcher line = LINE.matcher(readme);
        while (line.find()) {
            String name = line.group(1);
            said.add(name);
            int numbers = (int) Arrays.stream(line.group(2).split(", ")).filter(n -> !n.isEmpty()).count();
            c.due(name + " takes so many", numbers, FACE.containsKey(name) ? FACE.get(name).getParameterCount() : -1);
            if (document != null) {
                c.due("what " + name + " refuses", refusals(line.group(3)), refusals(promise(document, name)));
            }
        }
        c.due("the calls of README.md", said.toString(), FACE.keySet().toString());
    }

    private static String promise(String document, String name) {
        int from = document.indexOf(": " + name + "\n");
        return document.substring(from, document.indexOf("\n## ", from));
    }

    private static String refusals(String words) {
        TreeSet<String> all = new TreeSet<>();
        Matcher m = REFUSAL.matcher(words);
        while (m.find()) {
            all.add(m.group());
        }
        return all.toString();
    }

    private static void tests(String readme) throws Exception {
        try (Stream<Path> files = Files.list(Path.of("src/test/java"))) {
            files.map(file -> file.getFileName().toString().replace(".java", ""))
                    .filter(name -> name.endsWith("Test") && !name.endsWith("EdgesTest"))
                    .forEach(name -> c.due(name + " is in README.md", readme.contains("| " + name + " |") ? 1 : 0, 1));
        }
    }
}
