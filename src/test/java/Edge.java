import java.util.ArrayList;
import java.util.List;
import java.util.Set;
import java.util.regex.Matcher;
import java.util.regex.Pattern;

/** One edge that the document names: a run of calls on a new object, with the answers that are due. */
final class Edge {
    private static final Pattern STEP = Pattern.compile("([!?] )?(\\w+)(\\(.*?\\)| \".*\")( = (\\S+))?");
    private static final Pattern SIGN = Pattern.compile("\\\\([0-9a-f]{2})");
    /** The calls that read THE TEXT, so that they empty it, whatever they answer. */
    private static final Set<String> READERS = Set.of("documents", "order", "read", "day");

    private final String name;
    private final List<String> steps = new ArrayList<>();

    Edge(String name) {
        this.name = name;
    }

    String name() {
        return name;
    }

    List<String> steps() {
        return steps;
    }

    /** What was not as due, each in a line. */
    List<String> faults() {
        List<String> faults = new ArrayList<>();
        Told told = new Told();
        for (int i = 0; i < steps.size(); i++) {
            String fault = perform(told, steps.get(i));
            if (fault.isEmpty()) {
                fault = changeBy(i);
            }
            if (!fault.isEmpty()) {
                faults.add(name + ": step " + (i + 1) + ", " + steps.get(i) + ": " + fault);
            }
        }
        return faults;
    }

    private static String perform(Told told, String step) {
        String kind = step.split(" ", 2)[0];
        switch (kind) {
            case "row":
                return unlike(told.row(), step);
            case "lie":
                return unlike(told.lie(), step);
            case "terms":
                return unlike(told.terms(), step);
            case "bits":
                told.say(bytes(step.substring(kind.length()).replace(" ", "")));
                return "";
            default:
                return performCall(told, parsed(step));
        }
    }

    private static Matcher parsed(String step) {
        Matcher parts = STEP.matcher(step);
        if (!parts.matches()) {
            throw new IllegalArgumentException("no step: " + step);
        }
        return parts;
    }

    private static String performCall(Told told, Matcher parts) {
        String behind = parts.group(3);
        if (behind.startsWith(" ")) {
            told.say(signs(behind.substring(2, behind.length() - 1)));
        }
        if (parts.group(2).equals("text")) {
            return "";
        }
        String got = told.answer(parts.group(2) + (behind.startsWith(" ") ? "()" : behind));
        String want = parts.group(5);
        return want == null ? "" : unlike(got, want.equals("throws") ? "throws.NoSuchElementException" : want);
    }

    private static String unlike(String got, String want) {
        return got.equals(want) ? "" : "it is " + got + ", due is " + want;
    }

    /** With ! a call must change nothing, with ? nothing but the row: so a twin without it is told the same. */
    private String changeBy(int i) {
        String step = steps.get(i);
        if (!step.startsWith("! ") && !step.startsWith("? ")) {
            return "";
        }
        Told one = behind(i);
        Told twin = behind(i);
        Matcher parts = parsed(step);
        performCall(one, parts);
        if (READERS.contains(parts.group(2))) {
            twin.say("");
        }
        boolean row = step.startsWith("! ");
        String got = one.everything(row);
        String want = twin.everything(row);
        return got.equals(want) ? "" : "it has changed what was so:\n" + want + "\nto:\n" + got;
    }

    private Told behind(int i) {
        Told told = new Told();
        for (int k = 0; k < i; k++) {
            if (!steps.get(k).matches("(row|lie|terms)\\b.*")) {
                perform(told, steps.get(k));
            }
        }
        return told;
    }

    /** A sign that a file can't show is told by its number, as in \00. */
    private static String signs(String told) {
        return SIGN.matcher(told).replaceAll(
                sign -> Matcher.quoteReplacement("" + (char) Integer.parseInt(sign.group(1), 16)));
    }

    private static String bytes(String bits) {
        StringBuilder bytes = new StringBuilder();
        for (int p = 0; p < bits.length(); p += 8) {
            String eight = (bits.substring(p, Math.min(p + 8, bits.length())) + "0000000").substring(0, 8);
            bytes.append((char) Integer.parseInt(eight, 2));
        }
        return bytes.toString();
    }
}
