import java.io.IOException;
import java.nio.file.Path;
import java.util.ArrayList;
import java.util.HashSet;
import java.util.List;
import java.util.Set;

/** Each edge that the document names, as src/test/edges tells it; README.md says how they are told. */
final class EdgesTest {
    private static final Path EDGES = Path.of("src/test/edges");
    /** The calls of promises 2 to 42. */
    private static final String[] CALLS = {"sign", "end", "documents", "order", "document", "at", "sheet", "list", "bits",
        "all", "shortest", "written", "read", "least", "audit", "halves", "would", "gain", "sorts", "swaps", "moves",
        "best", "place", "climbs", "having", "compared", "blocks", "runs", "likeness", "nearest", "heard", "forget",
        "fits", "asks", "day", "undo", "years", "keep", "again", "count", "row"};

    private EdgesTest() {
    }

    public static void main(String[] args) throws IOException {
        EdgeFiles files = new EdgeFiles();
        files.readFolder(EDGES);
        List<String> faults = new ArrayList<>(missing(files.edges()));
        for (Edge edge : files.edges()) {
            faults.addAll(edge.faults());
        }
        faults.forEach(System.out::println);
        System.out.println(files.edges().size() + " edges, " + faults.size() + " faults");
        if (!faults.isEmpty()) {
            System.exit(1);
        }
    }

    /** Each promise must have edges, each edge a name of its own that says of which promise it is, and its call. */
    private static List<String> missing(List<Edge> edges) {
        List<String> missing = new ArrayList<>();
        Set<String> names = new HashSet<>();
        Set<String> promises = new HashSet<>();
        for (Edge edge : edges) {
            String promise = edge.name().split(": ", 2)[0];
            promises.add(promise);
            if (!edge.name().matches("(Terms [12]|Promise ([1-9]|[1-3][0-9]|4[0-2])): .+") || !names.add(edge.name())) {
                missing.add(edge.name() + ": it needs a promise's number and a name of its own");
            } else if (!calls(edge, promise)) {
                missing.add(edge.name() + ": it does not call what the promise is about");
            }
        }
        for (int promise = 1; promise <= CALLS.length + 1; promise++) {
            if (!promises.contains("Promise " + promise)) {
                missing.add("there is no edge of promise " + promise);
            }
        }
        return missing;
    }

    /** The object itself is new in every edge, so the first promise has no call to look for. */
    private static boolean calls(Edge edge, String promise) {
        if (promise.startsWith("Terms ") || promise.equals("Promise 1")) {
            return true;
        }
        String call = CALLS[Integer.parseInt(promise.substring("Promise ".length())) - 2];
        return edge.steps().stream().anyMatch(step -> step.matches("([!?] )?" + call + "\\b.*"));
    }
}
