import java.io.IOException;
import java.nio.file.Path;
import java.util.ArrayList;
import java.util.LinkedHashMap;
import java.util.List;
import java.util.Map;

/**
 * Each sentence of ../shared/DOC.md, word by word, with a run of calls that shows it, as src/test/sentences tells it:
 * what a run is told to show must stand in the document, and no word of the document may be left without a run.
 */
final class SentencesTest {
    private static final Path SENTENCES = Path.of("src/test/sentences");
    private static final int PROMISES = 42;

    private final Map<String, String> sayings;
    /** By heading, which signs of it have a run. */
    private final Map<String, boolean[]> shown = new LinkedHashMap<>();
    private final List<String> faults = new ArrayList<>();

    private SentencesTest(Map<String, String> sayings) {
        this.sayings = sayings;
        for (Map.Entry<String, String> saying : sayings.entrySet()) {
            shown.put(saying.getKey(), new boolean[saying.getValue().length()]);
        }
    }

    public static void main(String[] args) throws IOException {
        EdgeFiles files = new EdgeFiles();
        files.readFile(EdgeFiles.SETUPS);
        files.readFolder(SENTENCES);
        SentencesTest test = new SentencesTest(new Doc().sayings());
        for (Edge run : files.edges()) {
            test.show(run);
        }
        test.lookForMissing();
        test.faults.forEach(System.out::println);
        System.out.println(files.edges().size() + " sentences, " + test.faults.size() + " faults");
        if (!test.faults.isEmpty()) {
            System.exit(1);
        }
    }

    private void show(Edge run) {
        String[] parts = run.name().split(" says: ", 2);
        if (parts.length < 2 || !sayings.containsKey(parts[0])) {
            faults.add(run.name() + ": the document has no such heading");
        } else if (!mark(sayings.get(parts[0]), parts[1], shown.get(parts[0]))) {
            faults.add(run.name() + ": the document does not say that there");
        }
        if (run.steps().isEmpty()) {
            faults.add(run.name() + ": it has no calls");
        }
        faults.addAll(run.faults());
    }

    private static boolean mark(String saying, String words, boolean[] marks) {
        int at = saying.indexOf(words);
        boolean found = at >= 0;
        while (at >= 0) {
            for (int i = at; i < at + words.length(); i++) {
                marks[i] = true;
            }
            at = saying.indexOf(words, at + 1);
        }
        return found;
    }

    private void lookForMissing() {
        for (int promise = 1; promise <= PROMISES; promise++) {
            if (!sayings.containsKey("Promise " + promise)) {
                faults.add("the document has no promise " + promise);
            }
        }
        for (Map.Entry<String, String> saying : sayings.entrySet()) {
            for (String words : without(saying.getValue(), shown.get(saying.getKey()))) {
                faults.add(saying.getKey() + ": no run shows \"" + words + "\"");
            }
        }
    }

    /** The words without a mark; signs between words need none. */
    private static List<String> without(String saying, boolean[] marks) {
        List<String> without = new ArrayList<>();
        int p = 0;
        while (p < marks.length) {
            int end = p;
            while (end < marks.length && !marks[end]) {
                end++;
            }
            String words = saying.substring(p, end).trim();
            if (!words.replaceAll("[\\s.,:;()]", "").isEmpty()) {
                without.add(words);
            }
            p = end + 1;
        }
        return without;
    }
}
