import java.io.IOException;
import java.nio.file.Files;
import java.nio.file.Path;
import java.util.ArrayList;
import java.util.HashMap;
import java.util.HashSet;
import java.util.List;
import java.util.Map;
import java.util.Set;
import java.util.stream.Collectors;
import java.util.stream.Stream;

/** Each edge that the document names, as src/test/edges tells it; README.md says how they are told. */
final class EdgesTest {
    private static final Path EDGES = Path.of("src/test/edges");
    /** The calls of promises 2 to 42. */
    private static final String[] CALLS = {"sign", "end", "documents", "order", "document", "at", "sheet", "list", "bits",
        "all", "shortest", "written", "read", "least", "audit", "halves", "would", "gain", "sorts", "swaps", "moves",
        "best", "place", "climbs", "having", "compared", "blocks", "runs", "likeness", "nearest", "heard", "forget",
        "fits", "asks", "day", "undo", "years", "keep", "again", "count", "row"};

    private final Map<String, List<String>> setups = new HashMap<>();
    private final List<Edge> edges = new ArrayList<>();
    /** The steps of the edge or setup that is being read. */
    private List<String> steps = new ArrayList<>();

    public static void main(String[] args) throws IOException {
        EdgesTest test = new EdgesTest();
        for (Path file : files()) {
            for (String line : Files.readAllLines(file)) {
                test.take(line);
            }
        }
        List<String> faults = new ArrayList<>(test.missing());
        for (Edge edge : test.edges) {
            faults.addAll(edge.faults());
        }
        faults.forEach(System.out::println);
        System.out.println(test.edges.size() + " edges, " + faults.size() + " faults");
        if (!faults.isEmpty()) {
            System.exit(1);
        }
    }

    private static List<Path> files() throws IOException {
        try (Stream<Path> files = Files.list(EDGES)) {
            return files.filter(file -> file.toString().endsWith(".txt")).sorted().collect(Collectors.toList());
        }
    }

    private void take(String line) {
        if (line.isBlank() || line.startsWith("#")) {
            return;
        }
        if (line.startsWith("Setup ")) {
            steps = new ArrayList<>();
            setups.put(line.substring("Setup ".length()), steps);
        } else if (!line.startsWith(" ")) {
            Edge edge = new Edge(line);
            edges.add(edge);
            steps = edge.steps();
        } else {
            for (String step : line.trim().split(" then ")) {
                takeStep(step);
            }
        }
    }

    private void takeStep(String step) {
        if (!step.startsWith("with ")) {
            steps.add(step);
            return;
        }
        List<String> setup = setups.get(step.substring("with ".length()));
        if (setup == null) {
            throw new IllegalArgumentException("no setup: " + step);
        }
        steps.addAll(setup);
    }

    /** Each promise must have edges, each edge a name of its own that says of which promise it is, and its call. */
    private List<String> missing() {
        List<String> missing = new ArrayList<>();
        Set<String> names = new HashSet<>();
        Set<String> promises = new HashSet<>();
        for (Edge edge : edges) {
            String promise = edge.name().split(": ", 2)[0];
            promises.add(promise);
            if (!edge.name().matches("(Terms [12]|Promise ([1-9]|[1-3][0-9]|4[0-2])): .+") || !names.add(edge.name())) {
                missing.add(edge.name() + ": it needs a promise's number and a name of its own");
            } else if (!calls(edge, promise)) {
                missing.add(edge.name() + ": it does not call what the promise is about");
            }
        }
        for (int promise = 1; promise <= CALLS.length + 1; promise++) {
            if (!promises.contains("Promise " + promise)) {
                missing.add("there is no edge of promise " + promise);
            }
        }
        return missing;
    }

    private static boolean calls(Edge edge, String promise) {
        if (promise.startsWith("Terms ") || promise.equals("Promise 1")) {
            return true;
        }
        String call = CALLS[Integer.parseInt(promise.substring("Promise ".length())) - 2];
        return edge.steps().stream().anyMatch(step -> step.matches("([!?] )?" + call + "\\b.*"));
    }
}
