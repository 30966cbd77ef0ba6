import java.lang.reflect.InvocationTargetException;
import java.lang.reflect.Method;
import java.nio.file.Files;
import java.nio.file.Path;
import java.util.Arrays;
import java.util.Comparator;
import java.util.List;
import java.util.Set;
import java.util.TreeSet;

/** Runs every test of a boundary case, and sees that its sentence stands in the document. */
public final class EdgesTest {
    private static final List<Class<?>> EDGES = List.of(TunnelEdges.class, TextEdges.class, TriedEdges.class,
        ThingEdges.class, RefusalEdges.class);
    private static final int PROMISES = 46;

    private final String document;
    private final Set<Integer> promises = new TreeSet<>();

    private EdgesTest(String document) {
        this.document = document;
    }

    private static String folded(String text) {
        return text.replaceAll("\\s+", " ");
    }

    private String section(int promise) {
        String head = promise == Edge.WHAT_IT_IS ? "## What it is"
            : promise == Edge.TERMS ? "## Terms" : "## Promise " + promise + ":";
        int from = document.indexOf("\n" + head);
        int to = document.indexOf("\n## ", from + 1);
        return from < 0 || to < 0 ? "" : folded(document.substring(from, to));
    }

    private void runOne(Method test) throws IllegalAccessException {
        Edge edge = test.getAnnotation(Edge.class);
        promises.add(edge.promise());
        Edges.DUE.about(test.getDeclaringClass().getName() + "." + test.getName() + ", '" + edge.says() + "'");
        Edges.DUE.holds(section(edge.promise()).contains(folded(edge.says())), "the sentence in the document: that");
        int before = Edges.DUE.asked();
        try {
            test.invoke(null);
        } catch (InvocationTargetException e) {
            Edges.DUE.holds(false, "no exception, but " + e.getCause() + ": that");
        }
        Edges.DUE.holds(Edges.DUE.asked() > before, "something was asked: that");
    }

    private void runAll() throws IllegalAccessException {
        int tests = 0;
        for (Class<?> edges : EDGES) {
            Method[] methods = edges.getDeclaredMethods();
            Arrays.sort(methods, Comparator.comparing(Method::getName));
            for (Method test : methods) {
                if (test.isAnnotationPresent(Edge.class)) {
                    runOne(test);
                    tests++;
                }
            }
        }
        Edges.DUE.about("all promises");
        for (int promise = 1; promise <= PROMISES; promise++) {
            Edges.DUE.holds(promises.contains(promise), "a test of promise " + promise + ": that");
        }
        System.out.println("EdgesTest: " + tests + " sentences");
    }

    public static void main(String[] args) throws Exception {
        Path path = Path.of(System.getProperty("project.root", "."), "../shared/DOC.md");
        new EdgesTest(Files.readString(path)).runAll();
        Edges.DUE.end();
    }
}
