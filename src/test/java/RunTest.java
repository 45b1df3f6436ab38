import java.io.File;
import java.io.IOException;
import java.nio.file.Files;
import java.nio.file.Path;
import java.util.Comparator;
import java.util.List;
import java.util.stream.Stream;

/** README.md's way to run the tests is .ci/run, which does what README.md says, tried on small projects. */
public final class RunTest {
    private static final Path SCRIPT = Path.of(".ci", "run");
    private static final String CLASS = "src/main/java/ConceptTable.java";
    private static final String OWN = "src/test/java/OwnTest.java";
    private static final String SHARED = "../shared/tests/SharedRuns.java";

    private static final Due due = new Due("RunTest");

    public static void main(String[] args) throws Exception {
        List<String> commands = Readme.shown("sh");
        due.same("README.md's way to run the tests", String.join("; ", commands), ".ci/run");
        due.holds(".ci/run can be run as README.md says", Files.isExecutable(SCRIPT));
        Path place = Files.createTempDirectory("runtest");
        try {
            tryAll(place);
        } finally {
            clear(place);
        }
        due.end();
    }

    /** All are started before any is waited for: each takes a second or two. */
    private static void tryAll(Path place) throws Exception {
        Project good = new Project(place.resolve("good"));
        Project wrongOwn = new Project(place.resolve("wrongOwn")).write(OWN, program("OwnTest", 1));
        Project wrongShared = new Project(place.resolve("wrongShared")).write(SHARED, program("SharedRuns", 1));
        Project brokenOwn = new Project(place.resolve("brokenOwn")).write(OWN, "no Java");
        Project brokenShared = new Project(place.resolve("brokenShared")).write(SHARED, "no Java");
        Project brokenClass = new Project(place.resolve("brokenClass")).write(CLASS, "no Java");
        Project noOwn = new Project(place.resolve("noOwn")).delete(OWN);
        Project noShared = new Project(place.resolve("noShared")).delete(SHARED);
        for (Project project : List.of(
                good, wrongOwn, wrongShared, brokenOwn, brokenShared, brokenClass, noOwn, noShared)) {
            project.start();
        }
        good.ends("a good project", true, "OwnTest ran", "SharedRuns ran", "2 passed, 0 failed");
        wrongOwn.ends("a wrong test of its own", false, "OwnTest ran", "SharedRuns ran", "FAILED  OwnTest");
        wrongShared.ends("a wrong shared test", false, "OwnTest ran", "SharedRuns ran", "FAILED  shared/SharedRuns");
        brokenOwn.ends("a test of its own that does not compile", false, "SharedRuns ran", "1 passed, 1 failed");
        brokenShared.ends("a shared test that does not compile", false, "OwnTest ran", "1 passed, 1 failed");
        brokenClass.ends("a class that does not compile", false, "0 passed, 2 failed");
        noOwn.ends("no test of its own", false, "SharedRuns ran", "1 passed, 1 failed");
        noShared.ends("no shared test", false, "OwnTest ran", "1 passed, 1 failed");
    }

    private static String program(String name, int code) {
        return "public final class " + name + " {\n"
            + "    public static void main(String[] args) {\n"
            + "        System.out.println(\"" + name + " ran\");\n"
            + "        System.exit(new ConceptTable() == null ? 2 : " + code + ");\n"
            + "    }\n"
            + "}\n";
    }

    private static void clear(Path place) throws IOException {
        try (Stream<Path> all = Files.walk(place)) {
            all.sorted(Comparator.reverseOrder()).map(Path::toFile).forEach(File::delete);
        }
    }

    /** A project with .ci/run, a class, and one test of its own, beside one shared test; all of them are good. */
    private static final class Project {
        private final Path home;
        private final Path output;
        private Process process;

        Project(Path place) throws IOException {
            home = place.resolve("main");
            output = place.resolve("output");
            write(SCRIPT.toString(), Files.readString(SCRIPT));
            write(CLASS, "public final class ConceptTable {\n}\n");
            write(OWN, program("OwnTest", 0));
            write(SHARED, program("SharedRuns", 0));
        }

        Project write(String file, String text) throws IOException {
            Path path = home.resolve(file).normalize();
            Files.createDirectories(path.getParent());
            Files.writeString(path, text);
            return this;
        }

        Project delete(String file) throws IOException {
            Files.delete(home.resolve(file).normalize());
            return this;
        }

        /** From another place, as the script must find its own. */
        void start() throws IOException {
            process = new ProcessBuilder("bash", home.resolve(SCRIPT).toString())
                .directory(home.getParent().toFile())
                .redirectErrorStream(true)
                .redirectOutput(output.toFile())
                .start();
        }

        void ends(String what, boolean passes, String... said) throws IOException, InterruptedException {
            int code = process.waitFor();
            String text = Files.readString(output);
            due.holds(".ci/run " + (passes ? "passes" : "fails") + " with " + what, passes == (code == 0));
            for (String words : said) {
                due.holds(".ci/run says \"" + words + "\" with " + what, text.contains(words));
            }
        }
    }
}
