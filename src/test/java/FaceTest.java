import java.io.IOException;
import java.lang.reflect.Constructor;
import java.lang.reflect.Field;
import java.lang.reflect.Method;
import java.lang.reflect.Modifier;
import java.nio.file.Files;
import java.nio.file.Path;
import java.util.ArrayList;
import java.util.Collections;
import java.util.List;
import java.util.regex.Matcher;
import java.util.regex.Pattern;

/** The public face, as the document writes it, and the rules of the language that can be seen from outside. */
public final class FaceTest {
    private static final Pattern METHOD = Pattern.compile("^    public (\\w+) (\\w+)\\((.*?)\\)(?: throws (.*))?;$");

    public static void main(String[] args) throws IOException {
        Check.due("members", String.join("\n", dueMembers()), () -> String.join("\n", members()));
        Check.due("public and final", Modifier.PUBLIC | Modifier.FINAL, () -> Entropiary.class.getModifiers());
        Check.due("classes at most 12", true, () -> Entropiary.class.getDeclaredClasses().length < 12);
        for (Class<?> inner : Entropiary.class.getDeclaredClasses()) {
            insideClass(inner);
        }
        source();
        Check.end();
    }

    private static List<String> dueMembers() throws IOException {
        List<String> due = new ArrayList<>();
        due.add("constructor ()");
        for (String line : Files.readAllLines(Path.of("..", "shared", "DOC.md"))) {
            Matcher method = METHOD.matcher(line);
            if (method.matches()) {
                List<String> types = new ArrayList<>();
                for (String parameter : method.group(3).split(", ")) {
                    types.add(parameter.split(" ")[0]);
                }
                String thrown = method.group(4) == null ? "" : method.group(4).replace(", ", " ");
                due.add(method.group(1) + " " + method.group(2) + " (" + String.join(" ", types) + ") " + thrown);
            }
        }
        Collections.sort(due);
        return due;
    }

    private static List<String> members() {
        List<String> found = new ArrayList<>();
        for (Constructor<?> constructor : Entropiary.class.getDeclaredConstructors()) {
            found.add("constructor (" + names(constructor.getParameterTypes()) + ")");
        }
        for (Method method : Entropiary.class.getDeclaredMethods()) {
            if (!Modifier.isPrivate(method.getModifiers())) {
                found.add(method.getReturnType().getSimpleName() + " " + method.getName() + " ("
                        + names(method.getParameterTypes()) + ") " + names(method.getExceptionTypes()));
            }
        }
        for (Field field : Entropiary.class.getDeclaredFields()) {
            if (!Modifier.isPrivate(field.getModifiers())) {
                found.add("field " + field.getName());
            }
        }
        Collections.sort(found);
        return found;
    }

    private static String names(Class<?>[] types) {
        List<String> names = new ArrayList<>();
        for (Class<?> type : types) {
            names.add(type.getSimpleName());
        }
        return String.join(" ", names);
    }

    private static void insideClass(Class<?> inner) {
        String name = inner.getSimpleName();
        Check.due(name + " is static", true, () -> Modifier.isStatic(inner.getModifiers()));
        Check.due(name + " is not public", false, () -> Modifier.isPublic(inner.getModifiers()));
        int fields = 0;
        for (Field field : inner.getDeclaredFields()) {
            fields += Modifier.isStatic(field.getModifiers()) ? 0 : 1;
        }
        int count = fields;
        Check.due(name + " has at most 20 fields", true, () -> count <= 20);
        for (Method method : inner.getDeclaredMethods()) {
            Check.due(name + "." + method.getName() + " bears a name of the face", false, () -> isOfFace(method));
            Check.due(name + "." + method.getName() + " takes at most 7", true, () -> method.getParameterCount() <= 7);
        }
    }

    private static boolean isOfFace(Method inner) {
        for (Method method : Entropiary.class.getDeclaredMethods()) {
            if (Modifier.isPublic(method.getModifiers()) && method.getName().equals(inner.getName())) {
                return true;
            }
        }
        return false;
    }

    private static void source() throws IOException {
        String source = Files.readString(Path.of("src", "main", "java", "Entropiary.java"));
        String[] forbidden = {"->", "::", "Exact(", "try {", "catch", "while (", "synchronized", "assert ", "@",
            "java.util.Arrays", "import static", "package "};
        for (String word : forbidden) {
            Check.due("the source has " + word, false, () -> source.contains(word));
        }
        Check.due("one import", 1L, () -> source.lines().filter(line -> line.startsWith("import ")).count());
        Check.due("signs 1 to 127", true, () -> source.chars().allMatch(c -> c > 0 && c < 128));
        longestMethod(source);
    }

    private static void longestMethod(String source) {
        int length = 0;
        String name = "";
        for (String line : source.split("\n")) {
            boolean isHead = line.matches("^( {4}| {8})(\\w.*)\\{$") && !line.contains(" class ");
            name = isHead ? line.trim() : name;
            length = isHead ? 0 : length + 1;
            if (length > 60 && line.matches("^( {4}| {8})\\}$")) {
                String method = name;
                Check.due("too long a method", "", () -> method);
            }
        }
    }
}
