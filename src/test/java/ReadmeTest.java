import java.io.IOException;
import java.nio.file.Files;
import java.nio.file.Path;
import java.util.regex.Matcher;
import java.util.regex.Pattern;

/** What README.md shows of the class answers as it says there: each call has its answer behind it. */
final class ReadmeTest {
    private static final Path README = Path.of("README.md");
    private static final Pattern EXAMPLE = Pattern.compile("(?s)```java\n(.*?)```");
    private static final Pattern CALL = Pattern.compile("x\\.(\\w+\\(.*?\\)); +// (-?\\w+)(:? .*)?");
    private static final String NEW = "NumberedAnew x = new NumberedAnew();";

    private ReadmeTest() {
    }

    public static void main(String[] args) throws IOException {
        Matcher examples = EXAMPLE.matcher(Files.readString(README));
        int many = 0;
        Told x = new Told();
        while (examples.find()) {
            many++;
            for (String line : examples.group(1).split("\n")) {
                if (line.equals(NEW)) {
                    x = new Told();
                } else if (!line.isBlank()) {
                    holds(x, line);
                }
            }
        }
        Due.due("README.md has examples", many > 0, true);
        Due.ends();
    }

    private static void holds(Told x, String line) {
        Matcher call = CALL.matcher(line);
        if (!call.matches()) {
            Due.due("a call with its answer: " + line, false, true);
            return;
        }
        String got = x.answer(call.group(1)).replaceFirst("\\..*", "");
        Due.due(call.group(1) + " of README.md, which answered " + got + ": " + call.group(2), got.equals(call.group(2)), true);
    }
}
