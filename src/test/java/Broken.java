import java.io.File;
import java.io.IOException;
import java.io.OutputStream;
import java.nio.file.Files;
import java.nio.file.Path;
import java.util.ArrayList;
import java.util.Comparator;
import java.util.List;
import java.util.Map;
import java.util.concurrent.Callable;
import java.util.concurrent.ExecutionException;
import java.util.concurrent.ExecutorService;
import java.util.concurrent.Executors;
import java.util.concurrent.Future;
import java.util.concurrent.TimeUnit;
import java.util.regex.Matcher;
import java.util.regex.Pattern;
import java.util.stream.Stream;
import javax.tools.JavaCompiler;
import javax.tools.ToolProvider;

/**
 * Breaks the class in one place at a time and tells which of these faults no edge shows. It is no test of the class but
 * of its edges, takes some ten minutes, and is run by hand: README.md says how.
 */
final class Broken {
    private static final Path SOURCE = Path.of("src/main/java/NumberedAnew.java");
    /** The edges take one or two; behind these a fault has made a call that does not end, which is seen. */
    private static final int SECONDS = 20;

    private static final Map<String, List<String>> SIGNS = Map.ofEntries(
            Map.entry("<", List.of("<=", ">=")), Map.entry("<=", List.of("<", ">")),
            Map.entry(">", List.of(">=", "<=")), Map.entry(">=", List.of(">", "<")),
            Map.entry("==", List.of("!=")), Map.entry("!=", List.of("==")),
            Map.entry("&&", List.of("||")), Map.entry("||", List.of("&&")),
            Map.entry("+", List.of("-")), Map.entry("-", List.of("+")),
            Map.entry("*", List.of("+")), Map.entry("/", List.of("*")), Map.entry("%", List.of("*")),
            Map.entry("&", List.of("|")), Map.entry("|", List.of("&")), Map.entry("^", List.of("&")),
            Map.entry(">>>", List.of(">>")), Map.entry(">>", List.of("<<")), Map.entry("<<", List.of(">>")),
            Map.entry("+=", List.of("-=")), Map.entry("|=", List.of("=")), Map.entry("&=", List.of("|=")));
    private static final Map<String, List<String>> ANSWERS = Map.of(
            "NONE", List.of("NOT_SO", "0"), "NOT_SO", List.of("NONE", "0"), "MISSING", List.of("NONE", "0"),
            "CANNOT_ASK", List.of("NONE"), "true", List.of("false"), "false", List.of("true"));
    /** What a call could do besides what it is asked for. */
    private static final List<String> MEDDLING = List.of("told.begin();", "told.tell(1);", "text.clear();", "text.add(0);",
            "steps.clear();", "steps.push(shelf);", "steps.pop(draft);", "hearsay.clear();", "hearsay.add(0, 1, 0);",
            "shelf.swap(0, 1);", "shelf.setTerms(0, 5);", "shelf.add(1);", "shelf.clear();", "put[1].copyFrom(draft);",
            "isPut[0] = true;", "isPut[1] = false;");

    /** What stands at a place of the source is taken for something else. */
    private record Fault(int from, int to, String by) {
    }

    private final String source;
    /** The source with blanks for comments and texts, so that nothing is broken there. */
    private final String code;
    private final List<Fault> faults = new ArrayList<>();

    private Broken(String source) {
        this.source = source;
        this.code = Pattern.compile("(?s)/\\*.*?\\*/|//[^\n]*|\"[^\"\n]*\"|'[^']*'").matcher(source)
                .replaceAll(part -> part.group().replaceAll("[^\n]", " "));
    }

    /** Only lines from .. to are broken, if they are given. */
    public static void main(String[] args) throws IOException, InterruptedException, ExecutionException {
        int from = args.length > 1 ? Integer.parseInt(args[0]) : 1;
        int to = args.length > 1 ? Integer.parseInt(args[1]) : Integer.MAX_VALUE;
        Broken broken = new Broken(Files.readString(SOURCE));
        broken.breakSigns();
        broken.breakNumbers();
        broken.breakAnswers();
        broken.leaveOut();
        broken.meddle();
        broken.faults.removeIf(fault -> broken.lineOf(fault) < from || broken.lineOf(fault) > to);
        System.out.println(broken.faults.size() + " faults, " + broken.unseen() + " of them no edge shows");
    }

    private int unseen() throws IOException, InterruptedException, ExecutionException {
        Path room = Files.createTempDirectory("broken");
        List<Callable<Boolean>> tries = new ArrayList<>();
        for (int i = 0; i < faults.size(); i++) {
            int one = i;
            tries.add(() -> isUnseen(room, one));
        }
        ExecutorService pool = Executors.newFixedThreadPool(Runtime.getRuntime().availableProcessors());
        int unseen = 0;
        for (Future<Boolean> tried : pool.invokeAll(tries)) {
            unseen += tried.get() ? 1 : 0;
        }
        pool.shutdown();
        remove(room);
        return unseen;
    }

    private void breakSigns() {
        Matcher signs = Pattern.compile("(?<= )[-+*/%&|^<>=!]{1,3}(?= )").matcher(code);
        while (signs.find()) {
            add(signs, 0, SIGNS.getOrDefault(signs.group(), List.of()));
        }
        Matcher steps = Pattern.compile("\\+\\+|--").matcher(code);
        while (steps.find()) {
            add(steps, 0, List.of(steps.group().equals("++") ? "--" : "++"));
        }
        Matcher nots = Pattern.compile("!(?=\\w)").matcher(code);
        while (nots.find()) {
            add(nots, 0, List.of(""));
        }
    }

    private void breakNumbers() {
        Matcher numbers = Pattern.compile("\\b\\d+\\b").matcher(code);
        while (numbers.find()) {
            int number = Integer.parseInt(numbers.group());
            add(numbers, 0, List.of("" + (number + 1), "" + (number - 1)));
        }
    }

    private void breakAnswers() {
        Matcher answers = Pattern.compile("return (\\w+);").matcher(code);
        while (answers.find()) {
            add(answers, 1, ANSWERS.getOrDefault(answers.group(1), List.of()));
        }
    }

    private void leaveOut() {
        Matcher statements = Pattern.compile("(?m)^ {8,}((?!return|break|throw|private|static|int|long|boolean)\\w[^\n]*;)$")
                .matcher(code);
        while (statements.find()) {
            add(statements, 1, List.of(";"));
        }
    }

    /** Ahead of each answer of the outer class's own methods. */
    private void meddle() {
        String outer = code.substring(0, code.indexOf("private static final class"));
        Matcher answers = Pattern.compile("(?m)^ {8,}(?=return )").matcher(outer);
        while (answers.find()) {
            for (String meddling : MEDDLING) {
                faults.add(new Fault(answers.end(), answers.end(), meddling + " "));
            }
        }
    }

    private void add(Matcher found, int group, List<String> others) {
        for (String other : others) {
            faults.add(new Fault(found.start(group), found.end(group), other));
        }
    }

    private boolean isUnseen(Path room, int i) throws IOException, InterruptedException {
        Fault fault = faults.get(i);
        Path own = Files.createDirectory(room.resolve("" + i));
        Path file = own.resolve("NumberedAnew.java");
        Files.writeString(file, source.substring(0, fault.from()) + fault.by() + source.substring(fault.to()));
        boolean unseen = compiles(own, file) && edgesHold(own);
        if (unseen) {
            System.out.println(told(fault));
        }
        remove(own);
        return unseen;
    }

    private static void remove(Path own) throws IOException {
        try (Stream<Path> inside = Files.walk(own)) {
            inside.sorted(Comparator.reverseOrder()).map(Path::toFile).forEach(File::delete);
        }
    }

    private static boolean compiles(Path own, Path file) {
        JavaCompiler compiler = ToolProvider.getSystemJavaCompiler();
        OutputStream nowhere = OutputStream.nullOutputStream();
        return compiler.run(null, nowhere, nowhere, "-proc:none", "-d", own.toString(), file.toString()) == 0;
    }

    /** In a machine of its own, since a fault may make a call that does not end. */
    private static boolean edgesHold(Path own) throws IOException, InterruptedException {
        String path = own + System.getProperty("path.separator") + System.getProperty("java.class.path");
        Process edges = new ProcessBuilder("java", "-XX:TieredStopAtLevel=1", "-XX:+UseSerialGC", "-cp", path, "EdgesTest")
                .redirectErrorStream(true).redirectOutput(ProcessBuilder.Redirect.DISCARD).start();
        if (!edges.waitFor(SECONDS, TimeUnit.SECONDS)) {
            edges.destroyForcibly();
            return false;
        }
        return edges.exitValue() == 0;
    }

    private long lineOf(Fault fault) {
        return source.substring(0, fault.from()).chars().filter(sign -> sign == '\n').count() + 1;
    }

    private String told(Fault fault) {
        int begin = source.lastIndexOf('\n', fault.from()) + 1;
        int end = source.indexOf('\n', fault.to());
        return lineOf(fault) + ": " + source.substring(begin, fault.from()).stripLeading() + "[" + fault.by() + "]"
                + source.substring(fault.to(), end);
    }
}
