import java.io.IOException;
import java.lang.reflect.Method;
import java.nio.file.Files;
import java.nio.file.Path;
import java.util.ArrayList;
import java.util.List;
import java.util.Map;
import java.util.NoSuchElementException;
import java.util.regex.Matcher;
import java.util.regex.Pattern;

/** "The public face" of ../shared/DOC.md and what the interface says ahead of its calls stand so in the source. */
final class InterfaceTest {
    private static final Path SOURCE = Path.of("src/main/java/NumberedAnew.java");
    private static final Pattern PUBLIC = Pattern.compile(" {0,4}((?:public|import) .*?)( \\{)?");
    private static final Pattern CALL = Pattern.compile("public \\w+ (\\w+)\\(.*");
    private static final Pattern SAYING = Pattern.compile(" +// (---- .+)");

    private InterfaceTest() {
    }

    public static void main(String[] args) throws IOException {
        Doc doc = new Doc();
        List<String> lines = Files.readAllLines(SOURCE);
        isFace(lines, doc.face());
        isSaid(lines, doc.ahead());
        throwsAsTold(doc.face());
        Due.ends();
    }

    /** All public lines, in the document's order; a body stands for the document's semicolon. */
    private static void isFace(List<String> lines, List<String> face) {
        List<String> got = new ArrayList<>();
        for (String line : lines) {
            Matcher matcher = PUBLIC.matcher(line);
            if (matcher.matches()) {
                boolean method = matcher.group(2) != null && matcher.group(1).contains("(");
                got.add(matcher.group(1) + (method ? ";" : matcher.group(2) == null ? "" : matcher.group(2)));
            }
        }
        Due.due("lines of the face", face.size(), 45);
        Due.due("public lines of the source", got.size(), face.size());
        for (int i = 0; i < face.size() && i < got.size(); i++) {
            Due.due("\"" + got.get(i) + "\" is the face's \"" + face.get(i) + "\"", got.get(i).equals(face.get(i)), true);
        }
    }

    private static void isSaid(List<String> lines, Map<String, String> ahead) {
        Due.due("calls that the interface says something ahead of", ahead.size(), 41);
        String latest = "nothing";
        int met = 0;
        for (String line : lines) {
            Matcher saying = SAYING.matcher(line);
            latest = saying.matches() ? saying.group(1) : latest;
            Matcher call = CALL.matcher(line.trim());
            if (call.matches()) {
                met++;
                Due.due("ahead of " + call.group(1) + " stands " + latest + ", as the interface says",
                        latest.equals(ahead.get(call.group(1))), true);
            }
        }
        Due.due("calls of the source", met, ahead.size());
    }

    /** What is declared can be asked of the compiled class, too. */
    private static void throwsAsTold(List<String> face) {
        for (Method method : NumberedAnew.class.getMethods()) {
            if (method.getDeclaringClass() == NumberedAnew.class) {
                String told = face.stream().filter(line -> line.contains(" " + method.getName() + "(")).findFirst().orElse("");
                boolean due = told.contains("throws NoSuchElementException");
                Due.due("exceptions of " + method.getName(), method.getExceptionTypes().length, due ? 1 : 0);
                if (due) {
                    Due.due("the exception of " + method.getName(),
                            method.getExceptionTypes()[0] == NoSuchElementException.class, true);
                }
            }
        }
    }
}
