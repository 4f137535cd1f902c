import java.lang.reflect.Method;
import java.nio.file.Files;
import java.nio.file.Path;
import java.util.ArrayList;
import java.util.Arrays;
import java.util.Comparator;
import java.util.List;

/**
 * Runs the boundary cases of a test class, each on its own, and looks whether the document has their
 * words, and whether each refusal that a promise names has a case of its own.
 */
final class Edges {
    private static final Path DOCUMENT = Path.of("../shared/DOC.md");
    private static final String[] REFUSALS = {
        "BAD", "FULL", "STATE", "NOTHING", "BEYOND", "UNLIKE", "NOUGHT", "SIZE", "NONE",
    };

    private final Checks c;
    private final List<Method> cases = new ArrayList<>();
    private final String document;

    private Edges(Checks c, Class<?> tests) throws Exception {
        this.c = c;
        for (Method m : tests.getDeclaredMethods()) {
            if (m.isAnnotationPresent(Edge.class)) {
                cases.add(m);
            } else if (m.getParameterCount() == 0 && m.getReturnType() == void.class) {
                c.wrong(m.getName() + " is no case: it says no promise");
            }
        }
        cases.sort(Comparator.comparingInt((Method m) -> edge(m).promise()).thenComparing(Method::getName));
        document = Files.exists(DOCUMENT) ? plain(Files.readString(DOCUMENT)) : null;
    }

    static void run(Checks c, Class<?> tests, int from, int to) throws Exception {
        Edges all = new Edges(c, tests);
        for (Method m : all.cases) {
            all.runOne(m);
        }
        c.about("");
        if (all.document == null) {
            System.out.println("there is no " + DOCUMENT + ": its words are not looked at");
        } else {
            for (int promise = from; promise <= to; promise++) {
                all.lookAt(promise);
            }
        }
        System.out.print(all.cases.size() + " cases, ");
        c.end();
    }

    private static Edge edge(Method m) {
        return m.getAnnotation(Edge.class);
    }

    private static String plain(String text) {
        return text.replaceAll("\\s+", " ");
    }

    private void runOne(Method m) throws Exception {
        Edge edge = edge(m);
        c.about("promise " + edge.promise() + ", " + m.getName() + " (\"" + edge.says() + "\"): ");
        int before = c.done();
        m.invoke(null);
        if (c.done() == before) {
            c.wrong("asks nothing");
        }
        if (document != null && !general().contains(edge.says()) && !section(edge.promise()).contains(edge.says())) {
            c.wrong("the document does not say so");
        }
    }

    private void lookAt(int promise) {
        String section = section(promise);
        String[] words = Arrays.copyOf(REFUSALS, REFUSALS.length + 1);
        words[REFUSALS.length] = "";
        for (String word : words) {
            boolean isSaid = word.isEmpty() || section.matches(".*\\b" + word + "\\b.*");
            boolean hasCase = cases.stream().map(Edges::edge)
                    .anyMatch(e -> e.promise() == promise && e.says().contains(word));
            if (isSaid && !hasCase) {
                c.wrong("promise " + promise + ": no case of " + (word.isEmpty() ? "it" : word));
            }
        }
    }

    /** What the document says of all calls. */
    private String general() {
        return document.substring(0, document.indexOf("## Promise 1:"));
    }

    private String section(int promise) {
        int from = document.indexOf("## Promise " + promise + ":");
        return document.substring(from, document.indexOf(" ## ", from));
    }
}
