import java.lang.reflect.Constructor;
import java.lang.reflect.Field;
import java.lang.reflect.Method;
import java.lang.reflect.Modifier;
import java.io.IOException;
import java.nio.file.Files;
import java.nio.file.Path;
import java.util.ArrayList;
import java.util.List;
import java.util.Set;
import java.util.TreeSet;

/** Holds the class's members against the interface that the document prints. */
public final class FaceTest {
    private static final Path DOCUMENT = Path.of("../shared/DOC.md");

    private FaceTest() {
    }

    public static void main(String[] args) throws IOException {
        Set<String> due = dueFace();
        Set<String> got = face();
        List<String> wrong = new ArrayList<>();
        for (String member : due) {
            if (!got.contains(member)) {
                wrong.add("missing: " + member);
            }
        }
        for (String member : got) {
            if (!due.contains(member)) {
                wrong.add("not in the document: " + member);
            }
        }
        if (due.size() != 32) {
            wrong.add("the document shows " + due.size() + " members, not 32");
        }
        addWronglyNamed(wrong, due);
        wrong.forEach(System.out::println);
        if (!wrong.isEmpty()) {
            System.exit(1);
        }
        System.out.println("the face is the document's");
    }

    /** Returns the members that the document prints, without the names of parameters. */
    private static Set<String> dueFace() throws IOException {
        Set<String> members = new TreeSet<>();
        for (String line : Files.readAllLines(DOCUMENT)) {
            if (line.startsWith("    public ")) {
                members.add(line.strip().replace(";", "").replaceAll("(\\w+) [a-z]\\w*(?=[,)])", "$1"));
            }
        }
        return members;
    }

    private static Set<String> face() {
        Set<String> members = new TreeSet<>();
        for (Constructor<?> constructor : Lagless.class.getDeclaredConstructors()) {
            if (!Modifier.isPrivate(constructor.getModifiers())) {
                members.add("public Lagless(" + types(constructor.getParameterTypes()) + ")");
            }
        }
        for (Method method : Lagless.class.getDeclaredMethods()) {
            if (!Modifier.isPrivate(method.getModifiers())) {
                String thrown = types(method.getExceptionTypes());
                members.add(Modifier.toString(method.getModifiers()) + " " + method.getReturnType() + " "
                        + method.getName() + "(" + types(method.getParameterTypes()) + ")"
                        + (thrown.isEmpty() ? "" : " throws " + thrown));
            }
        }
        for (Field field : Lagless.class.getDeclaredFields()) {
            if (!Modifier.isPrivate(field.getModifiers())) {
                members.add(field.toString());
            }
        }
        return members;
    }

    private static String types(Class<?>[] types) {
        List<String> names = new ArrayList<>();
        for (Class<?> type : types) {
            names.add(type.getSimpleName());
        }
        return String.join(", ", names);
    }

    /** LANGUAGE.md, rules 1 and 2: no private method with a public one's name; inner classes not public. */
    private static void addWronglyNamed(List<String> wrong, Set<String> due) {
        for (Method method : Lagless.class.getDeclaredMethods()) {
            boolean taken = due.stream().anyMatch(member -> member.contains(" " + method.getName() + "("));
            if (taken && Modifier.isPrivate(method.getModifiers())) {
                wrong.add("a private method with a public one's name: " + method.getName());
            }
        }
        for (Class<?> inside : Lagless.class.getDeclaredClasses()) {
            if (Modifier.isPublic(inside.getModifiers()) || !Modifier.isStatic(inside.getModifiers())) {
                wrong.add("a class inside that is public or not static: " + inside.getSimpleName());
            }
        }
    }
}
