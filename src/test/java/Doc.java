import java.io.IOException;
import java.nio.file.Files;
import java.nio.file.Path;
import java.util.ArrayList;
import java.util.LinkedHashMap;
import java.util.List;
import java.util.Map;
import java.util.regex.Matcher;
import java.util.regex.Pattern;

/** ../shared/DOC.md, taken apart: what it says under which heading, the face, and what the interface says. */
final class Doc {
    private static final Path FILE = Path.of("../shared/DOC.md");
    private static final Pattern TERMS = Pattern.compile("(?ms)^(\\d)\\. (.*?)(?=^\\d\\. |^Ahead of |\\z)");
    private static final Pattern AHEAD = Pattern.compile("(?m)^Ahead of the calls (.*?) the interface says: (---- .+?)\\.$");
    private static final Pattern FACE = Pattern.compile("(?s)```java\n(.*?)```");

    private final Map<String, String> headings = new LinkedHashMap<>();

    Doc() throws IOException {
        for (String part : Files.readString(FILE).split("(?m)^## ")) {
            String[] halves = part.split("\n", 2);
            headings.put(halves[0].split(":")[0].trim(), halves.length > 1 ? halves[1] : "");
        }
    }

    /** What has runs of its own: all but the face, which is no sentence, and what is not promised. */
    Map<String, String> sayings() {
        Map<String, String> sayings = new LinkedHashMap<>();
        for (Map.Entry<String, String> heading : headings.entrySet()) {
            String name = heading.getKey();
            if (name.equals("What it is")) {
                sayings.put(name, plain(heading.getValue()));
            } else if (name.equals("Terms")) {
                Matcher terms = TERMS.matcher(heading.getValue());
                while (terms.find()) {
                    sayings.put("Terms " + terms.group(1), plain(terms.group(2)));
                }
            } else if (name.startsWith("Promise ")) {
                sayings.put(name, plain(heading.getValue()).replaceFirst("^`[^`]*`: ", ""));
            }
        }
        return sayings;
    }

    private static String plain(String text) {
        return text.replace("```text", "").replace("```", "").replaceAll("\\s+", " ").trim();
    }

    /** The lines of the face, without those that only open or close it. */
    List<String> face() {
        Matcher face = FACE.matcher(headings.getOrDefault("The public face", ""));
        List<String> lines = new ArrayList<>();
        while (face.find()) {
            for (String line : face.group(1).split("\n")) {
                if (line.length() > 1) {
                    lines.add(line.trim());
                }
            }
        }
        return lines;
    }

    /** What the interface says ahead of a call, by the call's name. */
    Map<String, String> ahead() {
        Map<String, String> ahead = new LinkedHashMap<>();
        Matcher lines = AHEAD.matcher(headings.getOrDefault("Terms", ""));
        while (lines.find()) {
            for (String call : lines.group(1).split(", ")) {
                ahead.put(call.replace("`", ""), lines.group(2));
            }
        }
        return ahead;
    }
}
