import java.io.ByteArrayOutputStream;
import java.io.IOException;
import java.io.OutputStream;
import java.net.URI;
import java.util.HashMap;
import java.util.List;
import java.util.Map;
import javax.tools.FileObject;
import javax.tools.ForwardingJavaFileManager;
import javax.tools.JavaCompiler;
import javax.tools.JavaFileManager;
import javax.tools.JavaFileObject;
import javax.tools.SimpleJavaFileObject;
import javax.tools.StandardJavaFileManager;
import javax.tools.ToolProvider;

/** Compiles texts without leaving files behind. */
final class InMemory {
    private static final JavaCompiler COMPILER = ToolProvider.getSystemJavaCompiler();

    private InMemory() {
    }

    /** The classes, by name, that a source text makes; none if it does not compile. */
    static Map<String, byte[]> compile(String name, String source) throws IOException {
        Map<String, ByteArrayOutputStream> written = new HashMap<>();
        try (StandardJavaFileManager files = COMPILER.getStandardFileManager(null, null, null)) {
            JavaFileManager kept = new ForwardingJavaFileManager<JavaFileManager>(files) {
                @Override
                public JavaFileObject getJavaFileForOutput(
                        Location location, String className, JavaFileObject.Kind kind, FileObject sibling) {
                    return new Written(className, written);
                }
            };
            List<String> options = List.of("-classpath", System.getProperty("java.class.path"));
            boolean compiled = COMPILER.getTask(null, kept, null, options, null, List.of(new Text(name, source))).call();
            Map<String, byte[]> classes = new HashMap<>();
            if (compiled) {
                written.forEach((className, bytes) -> classes.put(className, bytes.toByteArray()));
            }
            return classes;
        }
    }

    private static final class Text extends SimpleJavaFileObject {
        private final String source;

        Text(String name, String source) {
            super(URI.create("string:///" + name + ".java"), Kind.SOURCE);
            this.source = source;
        }

        @Override
        public CharSequence getCharContent(boolean ignoreErrors) {
            return source;
        }
    }

    private static final class Written extends SimpleJavaFileObject {
        private final ByteArrayOutputStream bytes = new ByteArrayOutputStream();

        Written(String name, Map<String, ByteArrayOutputStream> written) {
            super(URI.create("bytes:///" + name + ".class"), Kind.CLASS);
            written.put(name, bytes);
        }

        @Override
        public OutputStream openOutputStream() {
            return bytes;
        }
    }
}
