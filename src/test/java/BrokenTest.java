import java.io.IOException;
import java.io.InputStream;
import java.io.OutputStream;
import java.io.PrintStream;
import java.lang.reflect.InvocationTargetException;
import java.lang.reflect.Method;
import java.nio.file.Files;
import java.nio.file.Path;
import java.util.HashMap;
import java.util.List;
import java.util.Map;

/** Breaks the class as each test of an edge says, and sees that this very test then fails. */
public final class BrokenTest {
    private static final Path SOURCE = Path.of("src", "main", "java", "ConceptTable.java");
    private static final String ARROW = " => ";

    private static final Due due = new Due("BrokenTest");
    private static final Map<String, Map<String, byte[]>> COMPILED = new HashMap<>();

    public static void main(String[] args) throws Exception {
        String source = plain(Files.readString(SOURCE));
        List<Method> tests = EdgesTest.testsIn(BrokenTest.class.getClassLoader());
        for (Method test : tests) {
            String[] breaks = EdgesTest.edge(test).broken();
            due.holds(test.getName() + " says how to break its sentence", breaks.length > 0);
            due.holds(test.getName() + " passes on the class", !fails(test, source));
            for (String way : breaks) {
                tryBreak(test, way, source);
            }
        }
        due.end();
    }

    private static void tryBreak(Method test, String way, String source) throws Exception {
        int arrow = way.indexOf(ARROW);
        String whole = arrow < 0 ? way : way.substring(0, arrow).strip();
        String instead = arrow < 0 ? way : way.substring(arrow + ARROW.length()).strip();
        int at = source.indexOf(whole);
        boolean once = arrow >= 0 && at >= 0 && source.indexOf(whole, at + 1) < 0;
        due.holds(test.getName() + ": \"" + whole + "\" stands once in the class", once);
        if (once) {
            String broken = source.substring(0, at) + instead + source.substring(at + whole.length());
            due.holds(test.getName() + " fails with \"" + way + "\"", fails(test, broken));
        }
    }

    /** Without comments, and in single spaces, so that a text of several lines is easily told. */
    private static String plain(String source) {
        return source.replaceAll("(?s)/\\*.*?\\*/", "").replaceAll("//[^\\n]*", "").replaceAll("\\s+", " ");
    }

    private static boolean fails(Method test, String source) throws Exception {
        Map<String, byte[]> classes = COMPILED.get(source);
        if (classes == null) {
            classes = InMemory.compile("ConceptTable", source);
            COMPILED.put(source, classes);
        }
        if (classes.isEmpty()) {
            due.holds("a class broken for " + test.getName() + " compiles", false);
            return true;
        }
        Class<?> holder = new Loader(classes).loadClass(test.getDeclaringClass().getName());
        for (Method method : holder.getDeclaredMethods()) {
            if (method.getName().equals(test.getName())) {
                return failsQuietly(method, test.getName());
            }
        }
        throw new IllegalStateException("no " + test.getName());
    }

    private static boolean failsQuietly(Method method, String name) throws IllegalAccessException {
        method.setAccessible(true);
        Due own = new Due(name);
        PrintStream out = System.out;
        System.setOut(new PrintStream(OutputStream.nullOutputStream()));
        try {
            method.invoke(null, own);
        } catch (InvocationTargetException thrown) {
            return true;
        } finally {
            System.setOut(out);
        }
        return own.hasWrong();
    }

    /** Has a ConceptTable, and tests that use it, of its own; all else is its parent's. */
    private static final class Loader extends ClassLoader {
        private final Map<String, byte[]> classes;

        Loader(Map<String, byte[]> classes) {
            super(BrokenTest.class.getClassLoader());
            this.classes = classes;
        }

        @Override
        protected Class<?> loadClass(String name, boolean resolve) throws ClassNotFoundException {
            if (!classes.containsKey(name) && !name.startsWith("EdgesOf") && !name.matches("Edges(\\$.*)?")) {
                return super.loadClass(name, resolve);
            }
            Class<?> loaded = findLoadedClass(name);
            return loaded != null ? loaded : define(name);
        }

        private Class<?> define(String name) throws ClassNotFoundException {
            try {
                byte[] bytes = classes.containsKey(name) ? classes.get(name) : read(name);
                return defineClass(name, bytes, 0, bytes.length);
            } catch (IOException missing) {
                throw new ClassNotFoundException(name, missing);
            }
        }

        private byte[] read(String name) throws IOException {
            try (InputStream in = getParent().getResourceAsStream(name + ".class")) {
                return in.readAllBytes();
            }
        }
    }
}
