import java.io.IOException;
import java.nio.file.Files;
import java.nio.file.Path;
import java.util.ArrayList;
import java.util.HashMap;
import java.util.List;
import java.util.Map;
import java.util.regex.Matcher;
import java.util.regex.Pattern;
import java.util.stream.Collectors;
import java.util.stream.Stream;

/** Runs of calls as files tell them; README.md says how. */
final class EdgeFiles {
    static final Path SETUPS = Path.of("src/test/edges/0-setups.txt");

    private static final Pattern OFTEN = Pattern.compile("(\\d+) x (.+)");

    private final Map<String, List<String>> setups = new HashMap<>();
    private final List<Edge> edges = new ArrayList<>();
    /** The steps of the run or setup that is being read. */
    private List<String> steps = new ArrayList<>();

    List<Edge> edges() {
        return edges;
    }

    void readFolder(Path folder) throws IOException {
        for (Path file : files(folder)) {
            readFile(file);
        }
    }

    void readFile(Path file) throws IOException {
        for (String line : Files.readAllLines(file)) {
            take(line);
        }
    }

    private static List<Path> files(Path folder) throws IOException {
        try (Stream<Path> files = Files.list(folder)) {
            return files.filter(file -> file.toString().endsWith(".txt")).sorted().collect(Collectors.toList());
        }
    }

    private void take(String line) {
        if (line.isBlank() || line.startsWith("#")) {
            return;
        }
        if (line.startsWith("Setup ")) {
            steps = new ArrayList<>();
            setups.put(line.substring("Setup ".length()), steps);
        } else if (!line.startsWith(" ")) {
            Edge edge = new Edge(line);
            edges.add(edge);
            steps = edge.steps();
        } else {
            for (String step : line.trim().split(" then ")) {
                takeStep(step);
            }
        }
    }

    private void takeStep(String step) {
        Matcher often = OFTEN.matcher(step);
        if (often.matches()) {
            for (int i = Integer.parseInt(often.group(1)); i > 0; i--) {
                steps.add(often.group(2));
            }
        } else if (step.startsWith("with ")) {
            steps.addAll(setup(step.substring("with ".length())));
        } else {
            steps.add(step);
        }
    }

    private List<String> setup(String name) {
        List<String> setup = setups.get(name);
        if (setup == null) {
            throw new IllegalArgumentException("no setup: " + name);
        }
        return setup;
    }
}
