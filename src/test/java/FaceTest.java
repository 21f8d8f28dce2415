import java.io.IOException;
import java.lang.reflect.Constructor;
import java.lang.reflect.Field;
import java.lang.reflect.Method;
import java.lang.reflect.Modifier;
import java.nio.file.Files;
import java.nio.file.Path;
import java.util.ArrayList;
import java.util.HashSet;
import java.util.List;
import java.util.Set;
import java.util.TreeSet;
import java.util.regex.Matcher;
import java.util.regex.Pattern;

/** The class has the document's face and no other, and keeps to what can be seen of ../shared/LANGUAGE.md. */
final class FaceTest {
    private static final String[] INTS = {"sign 1", "documents 0", "order 0", "document 2", "at 1", "sheet 4", "list 1",
        "bits 2", "all 1", "shortest 1", "written 2", "read 2", "least 1", "audit 0", "halves 1", "would 1", "gain 1",
        "sorts 1", "swaps 2", "moves 2", "best 0", "place 1", "climbs 1", "having 1", "compared 2", "blocks 2",
        "runs 1", "likeness 0", "nearest 1", "heard 3", "forget 0", "fits 0", "asks 0", "day 0", "undo 0", "years 3",
        "count 1"};
    private static final String[] BOOLEANS = {"end 1", "keep 1", "again 1"};
    private static final String[] LONGS = {"row 1"};
    private static final Path SOURCE = Path.of("src/main/java/NumberedAnew.java");

    public static void main(String[] args) throws IOException {
        face();
        hidden();
        everyClass();
        source();
        methodLengths();
        Due.ends();
    }

    private static void face() {
        Set<String> want = new TreeSet<>();
        for (String one : INTS) {
            want.add("int " + one);
        }
        for (String one : BOOLEANS) {
            want.add("boolean " + one);
        }
        for (String one : LONGS) {
            want.add("long " + one);
        }
        Set<String> got = new TreeSet<>();
        for (Method method : NumberedAnew.class.getDeclaredMethods()) {
            if (Modifier.isPublic(method.getModifiers())) {
                got.add(method.getReturnType() + " " + method.getName() + " " + method.getParameterCount());
                for (Class<?> type : method.getParameterTypes()) {
                    Due.due("int as a parameter of " + method.getName(), type == int.class, true);
                }
            }
        }
        Due.due("the face, which has " + got, got.equals(want), true);
        int modifiers = NumberedAnew.class.getModifiers();
        Due.due("public final", Modifier.isPublic(modifiers) && Modifier.isFinal(modifiers), true);
        Constructor<?>[] constructors = NumberedAnew.class.getDeclaredConstructors();
        Due.due("one constructor", constructors.length, 1);
        Due.due("which is public", Modifier.isPublic(constructors[0].getModifiers()), true);
        Due.due("NONE", NumberedAnew.NONE, -1);
    }

    private static void hidden() {
        for (Method method : NumberedAnew.class.getDeclaredMethods()) {
            int modifiers = method.getModifiers();
            Due.due(method + " is public or private", Modifier.isPublic(modifiers) || Modifier.isPrivate(modifiers), true);
        }
        for (Field field : NumberedAnew.class.getDeclaredFields()) {
            Due.due(field + " is NONE or private",
                    field.getName().equals("NONE") || Modifier.isPrivate(field.getModifiers()), true);
        }
    }

    private static List<Class<?>> classes() {
        List<Class<?>> classes = new ArrayList<>(List.of(NumberedAnew.class.getDeclaredClasses()));
        for (Class<?> inside : classes) {
            Due.due(inside + " is static and private", Modifier.isStatic(inside.getModifiers())
                    && Modifier.isPrivate(inside.getModifiers()), true);
        }
        classes.add(NumberedAnew.class);
        return classes;
    }

    private static void everyClass() {
        Set<String> names = new HashSet<>();
        for (Method method : NumberedAnew.class.getDeclaredMethods()) {
            if (Modifier.isPublic(method.getModifiers())) {
                names.add(method.getName());
            }
        }
        List<Class<?>> classes = classes();
        Due.due("twelve classes at most, there are " + classes.size(), classes.size() <= 12, true);
        for (Class<?> one : classes) {
            int fields = 0;
            for (Field field : one.getDeclaredFields()) {
                if (Modifier.isStatic(field.getModifiers())) {
                    Due.due(field + " is final", Modifier.isFinal(field.getModifiers()), true);
                } else {
                    fields++;
                }
            }
            Due.due(one + " has twenty fields at most", fields <= 20, true);
            for (Method method : one.getDeclaredMethods()) {
                Due.due(method + " takes seven parameters at most", method.getParameterCount() <= 7, true);
                Due.due(method + " bears no name of the face",
                        one == NumberedAnew.class && Modifier.isPublic(method.getModifiers())
                                || !names.contains(method.getName()), true);
            }
        }
    }

    private static void source() throws IOException {
        String code = withoutComments(Files.readString(SOURCE));
        String[] forbidden = {"->", "::", "\\bfinally\\b", "\\bsynchronized\\b", "\\bassert\\b", "Exact\\(", "\\btry\\b",
            "\\bcatch\\b", "\\bSystem\\b", "\\bdouble\\b", "\\bfloat\\b", "\\bpackage\\b", "\\bvar\\b",
            "static\\s*\\{", "hashCode", "toString", "[^\\x00-\\x7f]"};
        for (String pattern : forbidden) {
            Due.due("the source has no " + pattern, Pattern.compile(pattern).matcher(code).find(), false);
        }
        Matcher imports = Pattern.compile("import ([^;]+);").matcher(code);
        while (imports.find()) {
            Due.due("import " + imports.group(1), imports.group(1).equals("java.util.NoSuchElementException"), true);
        }
        Matcher thrown = Pattern.compile("throw ([^;(]+)\\(").matcher(code);
        while (thrown.find()) {
            Due.due("throw " + thrown.group(1), thrown.group(1).equals("new NoSuchElementException"), true);
        }
        Matcher library = Pattern.compile("\\b(Math|Integer|Long|Arrays|String)\\.(\\w+)").matcher(code);
        Set<String> allowed = Set.of("max", "min", "bitCount");
        while (library.find()) {
            Due.due("library " + library.group(), allowed.contains(library.group(2)), true);
        }
    }

    private static String withoutComments(String code) {
        return code.replaceAll("(?s)/\\*.*?\\*/", "").replaceAll("//[^\n]*", "");
    }

    /** A method begins at the line that opens it and ends at the line of the same depth that closes it. */
    private static void methodLengths() throws IOException {
        List<String> lines = Files.readAllLines(SOURCE);
        Pattern opening = Pattern.compile("( +)[^ /*].*\\) (throws \\w+ )?\\{");
        for (int i = 0; i < lines.size(); i++) {
            Matcher matcher = opening.matcher(lines.get(i));
            if (matcher.matches() && matcher.group(1).length() <= 8) {
                int end = i;
                while (!lines.get(end).equals(matcher.group(1) + "}")) {
                    end++;
                }
                Due.due("line " + (i + 1) + " begins a method of sixty lines at most", end - i < 60, true);
            }
        }
    }
}
