import java.io.IOException;
import java.lang.reflect.Field;
import java.lang.reflect.Method;
import java.lang.reflect.Modifier;
import java.nio.file.DirectoryStream;
import java.nio.file.Files;
import java.nio.file.Path;
import java.util.HashSet;
import java.util.List;
import java.util.Map;
import java.util.Set;
import java.util.TreeSet;
import java.util.regex.Matcher;
import java.util.regex.Pattern;

/** What README.md shows of the class's use compiles, as it stands, and answers as README.md says. */
public final class ReadmeTest {
    private static final int MOST_CALLS = 512;
    private static final Pattern CALL =
        Pattern.compile("(t\\.(\\w+)\\([^;]*\\));\\s*// (0b[01]+|[0-9]+|NONE|BAD|FULL|AGAINST)(:.*)?");
    private static final Pattern LISTED = Pattern.compile("- `(\\w+Test)`: .*");

    private static final Due due = new Due("ReadmeTest");

    public static void main(String[] args) throws Exception {
        List<String> shown = Readme.shown("java");
        due.holds("README.md shows a run of 512 calls at most", !shown.isEmpty() && shown.size() <= MOST_CALLS);
        everyCallTellsItsAnswer(shown);
        theWholeFaceIsShown(shown);
        compilesAndAnswers(shown);
        everyTestIsListed();
        due.end();
    }

    private static void everyCallTellsItsAnswer(List<String> shown) {
        for (String line : shown) {
            if (line.startsWith("t.")) {
                due.holds("\"" + line + "\" in README.md tells its answer", CALL.matcher(line).matches());
            }
        }
    }

    private static void theWholeFaceIsShown(List<String> shown) {
        Set<String> seen = new HashSet<>();
        for (String line : shown) {
            Matcher call = CALL.matcher(line);
            if (call.matches()) {
                seen.add(call.group(2));
                seen.add(call.group(3));
            }
        }
        for (Method method : ConceptTable.class.getDeclaredMethods()) {
            if (Modifier.isPublic(method.getModifiers())) {
                due.holds("README.md shows " + method.getName() + "()", seen.contains(method.getName()));
            }
        }
        for (Field field : ConceptTable.class.getFields()) {
            due.holds("README.md shows the answer " + field.getName(), seen.contains(field.getName()));
        }
    }

    /** Once word by word, to see that a reader's copy compiles, and once with its answers compared. */
    private static void compilesAndAnswers(List<String> shown) throws Exception {
        StringBuilder source = new StringBuilder("public final class ReadmeUse {\n");
        source.append("public static void shown() {\n").append(String.join("\n", shown)).append("\n}\n");
        source.append("public static void compared(Due due) {\n");
        for (String line : shown) {
            source.append(compared(line)).append("\n");
        }
        source.append("}\n}\n");
        Map<String, byte[]> classes = InMemory.compile("ReadmeUse", source.toString());
        due.holds("what README.md shows compiles", !classes.isEmpty());
        if (!classes.isEmpty()) {
            Class<?> use = new Loader().define("ReadmeUse", classes.get("ReadmeUse"));
            use.getMethod("shown").invoke(null);
            use.getMethod("compared", Due.class).invoke(null, due);
        }
    }

    private static String compared(String line) {
        Matcher call = CALL.matcher(line);
        if (!call.matches()) {
            return line;
        }
        String answer = call.group(3);
        String want = Character.isDigit(answer.charAt(0)) ? answer : "ConceptTable." + answer;
        return "due.is(\"README.md: " + call.group(1) + "\", " + call.group(1) + ", " + want + ");";
    }

    private static void everyTestIsListed() throws IOException {
        Set<String> listed = new TreeSet<>();
        for (String line : Readme.lines()) {
            Matcher test = LISTED.matcher(line);
            if (test.matches()) {
                listed.add(test.group(1));
            }
        }
        Set<String> found = new TreeSet<>();
        try (DirectoryStream<Path> files = Files.newDirectoryStream(Path.of("src", "test", "java"), "*Test.java")) {
            for (Path file : files) {
                found.add(file.getFileName().toString().replace(".java", ""));
            }
        }
        due.same("the list of tests in README.md", listed.toString(), found.toString());
    }

    private static final class Loader extends ClassLoader {
        Loader() {
            super(ReadmeTest.class.getClassLoader());
        }

        Class<?> define(String name, byte[] bytes) {
            return defineClass(name, bytes, 0, bytes.length);
        }
    }
}
