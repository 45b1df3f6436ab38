import java.io.IOException;
import java.nio.file.Files;
import java.nio.file.Path;
import java.util.ArrayList;
import java.util.List;

/** What stands in README.md. */
final class Readme {
    private static final String FENCE = "```";

    private Readme() {
    }

    static List<String> lines() throws IOException {
        return Files.readAllLines(Path.of("README.md"));
    }

    /** The lines of all fenced blocks of a language, one block behind the other. */
    static List<String> shown(String language) throws IOException {
        List<String> found = new ArrayList<>();
        boolean inside = false;
        for (String line : lines()) {
            if (line.startsWith(FENCE)) {
                inside = line.equals(FENCE + language);
            } else if (inside && !line.isBlank()) {
                found.add(line);
            }
        }
        return found;
    }
}
