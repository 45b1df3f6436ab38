import java.io.IOException;
import java.lang.reflect.InvocationTargetException;
import java.lang.reflect.Method;
import java.nio.file.Files;
import java.nio.file.Path;
import java.util.ArrayList;
import java.util.Comparator;
import java.util.List;

/** Runs the test of each sentence that names a boundary case, and sees that every promise has one. */
public final class EdgesTest {
    private static final int PROMISES = 23;
    private static final Path DOCUMENT = Path.of("..", "shared", "DOC.md");
    private static final String[] HOLDERS = {"EdgesOfTable", "EdgesOfConcepts", "EdgesOfRules", "EdgesOfAsking"};

    private static final Due due = new Due("EdgesTest");

    public static void main(String[] args) throws Exception {
        List<Method> tests = testsIn(EdgesTest.class.getClassLoader());
        for (Method test : tests) {
            run(test, due);
        }
        everyPromiseHasOne(tests);
        namesAndWords(tests);
        System.out.println("EdgesTest: " + tests.size() + " sentences");
        due.end();
    }

    static List<Method> testsIn(ClassLoader loader) throws ClassNotFoundException {
        List<Method> tests = new ArrayList<>();
        for (String holder : HOLDERS) {
            for (Method method : Class.forName(holder, true, loader).getDeclaredMethods()) {
                if (method.isAnnotationPresent(Edge.class)) {
                    tests.add(method);
                }
            }
        }
        tests.sort(Comparator.comparingInt((Method test) -> edge(test).promise()).thenComparing(Method::getName));
        return tests;
    }

    static Edge edge(Method test) {
        return test.getAnnotation(Edge.class);
    }

    private static void run(Method test, Due all) throws IllegalAccessException {
        Due own = new Due("EdgesTest, " + test.getName());
        try {
            test.invoke(null, own);
        } catch (InvocationTargetException thrown) {
            all.holds(test.getName() + " without " + thrown.getCause(), false);
        }
        all.add(own);
    }

    private static void everyPromiseHasOne(List<Method> tests) {
        for (int promise = 1; promise <= PROMISES; promise++) {
            int number = promise;
            due.holds("a test of promise " + promise, tests.stream().anyMatch(test -> edge(test).promise() == number));
        }
    }

    /** The document's words are looked up only where the document is. */
    private static void namesAndWords(List<Method> tests) throws IOException {
        boolean found = Files.exists(DOCUMENT);
        String document = found ? Files.readString(DOCUMENT) : "";
        for (Method test : tests) {
            Edge edge = edge(test);
            String name = test.getName();
            due.holds(name + ", named by its promise", name.matches("promise" + edge.promise() + "[A-Z]\\w*"));
            if (found) {
                due.holds("\"" + edge.words() + "\" in the document of promise " + edge.promise(),
                    section(document, "Promise " + edge.promise() + ":").contains(edge.words())
                        || section(document, "Terms").contains(edge.words())
                        || section(document, "What it is").contains(edge.words()));
            }
        }
    }

    private static String section(String document, String heading) {
        int from = document.indexOf("\n## " + heading);
        if (from < 0) {
            return "";
        }
        int to = document.indexOf("\n## ", from + 1);
        return to < 0 ? document.substring(from) : document.substring(from, to);
    }
}
