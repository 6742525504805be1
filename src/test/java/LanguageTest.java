import java.io.IOException;
import java.io.PrintWriter;
import java.io.StringWriter;
import java.lang.reflect.Field;
import java.lang.reflect.Modifier;
import java.nio.file.DirectoryStream;
import java.nio.file.Files;
import java.nio.file.Path;
import java.util.ArrayList;
import java.util.HashMap;
import java.util.HashSet;
import java.util.LinkedHashMap;
import java.util.List;
import java.util.Map;
import java.util.Set;
import java.util.TreeSet;
import java.util.regex.Matcher;
import java.util.regex.Pattern;
import java.util.spi.ToolProvider;

/** Holds the class against the rules of LANGUAGE.md that can be counted, in its source and as it was compiled. */
public final class LanguageTest extends Checks {
    private static final Path SOURCE = Path.of("src/main/java/Lagless.java");
    private static final Path CLASSES = Path.of(System.getProperty("java.class.path"));

    private static final int MOST_CLASSES = 12;
    private static final int MOST_FIELDS = 20;
    private static final int MOST_LINES = 60;
    private static final int MOST_PARAMETERS = 7;
    private static final int MOST_DEPTH = 8;

    /** What the class may call of the library: the part of rule 4 that it has needed so far. */
    private static final Set<String> LIBRARY = Set.of("java/lang/Object.<init>", "java/lang/Math.min",
            "java/lang/Math.max", "java/lang/Math.floorMod", "java/lang/Long.bitCount",
            "java/lang/System.arraycopy", "java/util/Arrays.fill", "java/util/Arrays.copyOf",
            "java/util/ArrayList.<init>", "java/util/ArrayList.add", "java/util/ArrayList.get",
            "java/util/ArrayList.size", "java/util/ArrayList.clear");

    private static final Set<String> THROWN = Set.of("java/lang/IllegalStateException",
            "java/lang/IllegalArgumentException", "java/lang/IndexOutOfBoundsException",
            "java/lang/ArithmeticException", "java/lang/UnsupportedOperationException",
            "java/util/NoSuchElementException", "java/lang/RuntimeException");

    private static final Set<String> IMPORTED = Set.of("import java.util.ArrayList;", "import java.util.Arrays;",
            "import java.util.NoSuchElementException;", "import java.util.List;", "import java.util.Iterator;");

    private static final Pattern DESCRIPTOR = Pattern.compile(" +descriptor: (\\(.*)");
    private static final Pattern CALL = Pattern.compile(".*// (?:Interface)?Method ([^:]+):(.*)");

    /** A method as it was compiled. */
    private static final class Code {
        final String name;
        final List<String> lines = new ArrayList<>();
        final List<String> calls = new ArrayList<>();

        Code(String name) {
            this.name = name;
        }
    }

    private static final Map<String, Code> METHODS = new LinkedHashMap<>();
    private static final List<Class<?>> OWN = new ArrayList<>();

    private LanguageTest() {
    }

    public static void main(String[] args) throws IOException, ReflectiveOperationException {
        readClasses();
        looksAtSource();
        looksAtFields();
        looksAtCode();
        looksAtDepth();
        end("the class keeps to its language");
    }

    // ---- reading

    private static void readClasses() throws IOException, ReflectiveOperationException {
        try (DirectoryStream<Path> files = Files.newDirectoryStream(CLASSES, "Lagless{,$*}.class")) {
            for (Path file : files) {
                String name = file.getFileName().toString().replace(".class", "");
                OWN.add(Class.forName(name));
                readCode(name, file);
            }
        }
        is("classes are read", OWN.contains(Lagless.class), true);
        is("methods are read", METHODS.size() > 32, true);
    }

    private static void readCode(String owner, Path file) {
        StringWriter text = new StringWriter();
        PrintWriter out = new PrintWriter(text);
        ToolProvider.findFirst("javap").orElseThrow().run(out, out, "-p", "-c", "-s", file.toString());
        String heading = "";
        Code code = null;
        for (String line : text.toString().split("\n")) {
            Matcher descriptor = DESCRIPTOR.matcher(line);
            Matcher call = CALL.matcher(line);
            if (descriptor.matches()) {
                code = new Code(owner + "." + nameIn(heading, owner));
                METHODS.put(code.name + ":" + descriptor.group(1), code);
            } else if (code != null && line.matches(" +\\d+: .*|.*Exception table:.*")) {
                code.lines.add(line);
            }
            if (code != null && call.matches()) {
                String called = call.group(1).replace("\"", "");
                code.calls.add((called.contains(".") ? called : owner + "." + called) + ":" + call.group(2));
            }
            heading = line;
        }
    }

    private static String nameIn(String heading, String owner) {
        String name = heading.substring(0, Math.max(0, heading.indexOf('('))).replaceAll(".* ", "");
        return name.equals(owner) ? "<init>" : name;
    }

    // ---- looking

    private static void looksAtSource() throws IOException {
        about("source");
        List<String> lines = Files.readAllLines(SOURCE);
        int start = 0;
        for (int n = 0; n < lines.size(); n++) {
            String line = lines.get(n);
            is("signs 1 to 127 in the line " + (n + 1), line.chars().allMatch(sign -> sign >= 32 && sign < 127), true);
            is("no package", line.startsWith("package "), false);
            is(line + " is fine", !line.startsWith("import ") || IMPORTED.contains(line), true);
            if (line.matches(" +(?!(if|for|while|switch) ).*\\{") && line.contains("(")) {
                start = n;
            }
            if (line.matches(" {4,8}\\}")) {
                is("a short method up to the line " + (n + 1), n - start < MOST_LINES, true);
            }
        }
    }

    private static void looksAtFields() {
        about("fields");
        is("few classes", OWN.size() <= MOST_CLASSES, true);
        for (Class<?> own : OWN) {
            int fields = 0;
            for (Field field : own.getDeclaredFields()) {
                boolean constant = Modifier.isStatic(field.getModifiers());
                fields += constant ? 0 : 1;
                is(field + " is fine", constant ? isConstant(field) : isAllowed(field.getType()), true);
            }
            is("few fields in " + own, fields <= MOST_FIELDS, true);
        }
    }

    private static boolean isConstant(Field field) {
        return Modifier.isFinal(field.getModifiers())
                && (field.getType().isPrimitive() || field.getType() == String.class);
    }

    private static boolean isAllowed(Class<?> type) {
        Class<?> inner = type.isArray() ? type.getComponentType() : type;
        boolean ofNumbers = inner.isArray() && inner.getComponentType().isPrimitive();
        return ofNumbers || inner.isPrimitive() || OWN.contains(inner)
                || type == ArrayList.class || type == String.class || type == StringBuilder.class;
    }

    private static void looksAtCode() {
        for (Map.Entry<String, Code> entry : METHODS.entrySet()) {
            Code code = entry.getValue();
            about(entry.getKey());
            int parameters = parameters(entry.getKey());
            is("few parameters", parameters <= MOST_PARAMETERS, true);
            for (String call : code.calls) {
                String called = call.substring(0, call.indexOf(':'));
                String thrown = called.replace(".<init>", "");
                is(called + " is fine", METHODS.containsKey(call) || LIBRARY.contains(called)
                        || THROWN.contains(thrown), true);
            }
            String all = String.join("\n", code.lines);
            is("no catch, lambda, lock or text by +",
                    all.matches("(?s).*(Exception table|invokedynamic|monitorenter|instanceof).*"), false);
            is("throws in a constructor", all.contains("athrow") && code.name.endsWith("<init>"), false);
            looksAtThrows(code);
        }
    }

    /** Each throw follows the making of what is thrown. */
    private static void looksAtThrows(Code code) {
        for (int n = 1; n < code.lines.size(); n++) {
            if (code.lines.get(n).endsWith("athrow")) {
                is("throws what it makes: " + code.lines.get(n - 1),
                        code.lines.get(n - 1).matches(".*invokespecial.*Method java/.*<init>.*"), true);
            }
        }
    }

    private static int parameters(String method) {
        String types = method.substring(method.indexOf('(') + 1, method.indexOf(')'));
        return types.replaceAll("\\[*(L[^;]+;|[A-Z])", "x").length();
    }

    // ---- depth

    /** No method calls itself, by others either; and calls stand open at most eight deep, the library's too. */
    private static void looksAtDepth() {
        Map<String, Integer> depths = new HashMap<>();
        about("depth");
        for (String method : METHODS.keySet()) {
            int depth = depth(method, depths, new HashSet<>());
            is(method + " is at most " + MOST_DEPTH + " deep: " + depth, depth <= MOST_DEPTH, true);
        }
    }

    private static int depth(String method, Map<String, Integer> depths, Set<String> open) {
        if (depths.containsKey(method)) {
            return depths.get(method);
        }
        if (!open.add(method)) {
            complain(method + " calls itself, by " + new TreeSet<>(open));
            return 0;
        }
        int most = 0;
        if (METHODS.containsKey(method)) {
            for (String called : METHODS.get(method).calls) {
                most = Math.max(most, depth(called, depths, open));
            }
        }
        open.remove(method);
        depths.put(method, most + 1);
        return most + 1;
    }
}
