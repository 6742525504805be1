import java.io.IOException;
import java.lang.reflect.InvocationTargetException;
import java.lang.reflect.Method;
import java.nio.file.Files;
import java.nio.file.Path;
import java.util.ArrayList;
import java.util.List;
import java.util.Set;
import java.util.TreeSet;
import java.util.regex.Matcher;
import java.util.regex.Pattern;
import javax.tools.ToolProvider;

/** Holds README.md to what it says: its examples are run, and what it names must be there. */
public final class ReadmeTest extends Checks {
    private static final Path PAGE = Path.of("README.md");
    private static final Path TESTS = Path.of("src/test/java");
    private static final Path ROOM = Path.of("build/readme");
    private static final String CLASSES = System.getProperty("java.class.path");

    // "call;   // answer: remark" or "call;   // throws Name: remark"
    private static final Pattern ANSWERED = Pattern.compile("(game\\..*);\\s*// ([^:]+)(:.*)?");
    private static final Pattern PATH = Pattern.compile("`([^` ]*[/.][^` ]*)`");
    private static final Pattern WORD = Pattern.compile("`([a-z][A-Za-z]*)`");
    private static final Pattern SIGN = Pattern.compile("`(.)`");

    private ReadmeTest() {
    }

    public static void main(String[] args) throws IOException, ReflectiveOperationException {
        List<String> page = Files.readAllLines(PAGE);
        runExamples(part(page, "## How to use it", "### Instructions"));
        namesPaths(page);
        namesTests(page);
        namesInstructions(part(page, "### Instructions", "### Calls"));
        namesCalls(part(page, "### Calls", "### Limits"));
        end("README.md says what is so");
    }

    /** Returns the lines from one heading to another one. */
    private static List<String> part(List<String> page, String from, String to) {
        about(from);
        int start = page.indexOf(from);
        int end = page.indexOf(to);
        is("is on the page", start >= 0 && end > start, true);
        return start >= 0 && end > start ? page.subList(start, end) : List.of();
    }

    private static List<String> found(Pattern pattern, List<String> lines) {
        List<String> all = new ArrayList<>();
        for (String line : lines) {
            Matcher matcher = pattern.matcher(line);
            while (matcher.find()) {
                all.add(matcher.group(1));
            }
        }
        return all;
    }

    // ---- examples

    /** Makes one program of all examples, which holds each answer against the one that the page tells. */
    private static void runExamples(List<String> lines) throws IOException, ReflectiveOperationException {
        StringBuilder source = new StringBuilder("public final class Example {\n");
        source.append("public static void main(String[] args) {\n");
        boolean inside = false;
        for (String line : lines) {
            if (line.startsWith("```")) {
                inside = line.equals("```java");
            } else if (inside && !line.isBlank()) {
                source.append(statement(line)).append('\n');
            }
        }
        compileAndRun(source.append("}\n}\n").toString());
    }

    private static String statement(String line) {
        Matcher answered = ANSWERED.matcher(line);
        if (!answered.matches()) {
            is("makes something, or tells its answer: " + line, line.contains(" = "), true);
            return line;
        }
        String call = answered.group(1);
        String due = answered.group(2).strip();
        String text = due.startsWith("throws ") ? '"' + due.substring(7) + '"' : "String.valueOf(" + due + ")";
        return "Checks.is(\"" + call + "\", Checks.outcome(() -> " + call + "), " + text + ");";
    }

    private static void compileAndRun(String source) throws IOException, ReflectiveOperationException {
        Files.createDirectories(ROOM);
        Path file = Files.writeString(ROOM.resolve("Example.java"), source);
        int code = ToolProvider.getSystemJavaCompiler().run(null, null, null,
                "-cp", CLASSES, "-d", CLASSES, file.toString());
        is("the exit code of the compiler", code, 0);
        if (code != 0) {
            return;
        }
        Method main = Class.forName("Example").getMethod("main", String[].class);
        try {
            main.invoke(null, (Object) new String[0]);
        } catch (InvocationTargetException e) {
            complain("an example threw " + e.getCause());
        }
    }

    // ---- names

    /** Each file or directory that is named is there. */
    private static void namesPaths(List<String> page) {
        about("paths");
        List<String> paths = found(PATH, page);
        is("more than a few", paths.size() > 5, true);
        for (String path : paths) {
            if (path.length() > 1 && !path.equals("build/") && !path.contains("*")) {
                boolean there = Files.exists(Path.of(path)) || Files.exists(TESTS.resolve(path));
                is(path + " is there", there, true);
            }
        }
    }

    /** Each test is named. */
    private static void namesTests(List<String> page) throws IOException {
        about("tests");
        List<String> named = found(PATH, page);
        try (var files = Files.newDirectoryStream(TESTS, "*Test.java")) {
            for (Path file : files) {
                is(file + " is named", named.contains(file.toString()), true);
            }
        }
    }

    /** The instructions that are named are those that there are. */
    private static void namesInstructions(List<String> lines) {
        Set<String> due = new TreeSet<>();
        for (char op = 0; op < 256; op++) {
            char tried = op;
            if (outcome(() -> new Lagless().addInstruction(0, tried, 1, 1)).equals("1")) {
                due.add(String.valueOf(op));
            }
        }
        is("instructions", new TreeSet<>(found(SIGN, lines)), due);
    }

    /** The calls that are named are those that there are, each once. */
    private static void namesCalls(List<String> lines) {
        Set<String> due = new TreeSet<>();
        for (Method method : Lagless.class.getMethods()) {
            if (method.getDeclaringClass() == Lagless.class) {
                due.add(method.getName());
            }
        }
        List<String> named = found(WORD, lines);
        is("calls", new TreeSet<>(named), due);
        is("how many", named.size(), due.size());
    }
}
