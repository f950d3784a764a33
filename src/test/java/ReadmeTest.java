import java.io.ByteArrayOutputStream;
import java.io.IOException;
import java.io.PrintStream;
import java.lang.reflect.Method;
import java.lang.reflect.Modifier;
import java.net.URL;
import java.net.URLClassLoader;
import java.nio.charset.StandardCharsets;
import java.nio.file.Files;
import java.nio.file.Path;
import java.util.ArrayList;
import java.util.List;
import java.util.stream.Stream;
import javax.tools.ToolProvider;

/** What README.md says: its example compiles and prints what it says, and no call and no test is left out. */
public final class ReadmeTest {
    private static final String PRINT = "System.out.println(";
    private static final String SAYS = "// ";

    public static void main(String[] args) throws Exception {
        List<String> readme = Files.readAllLines(Path.of("README.md"));
        List<String> example = javaBlock(readme);
        Check.due("the example prints something", true, () -> dueLines(example).size() > 10);
        String printed = printedBy(example);
        Check.due("what the example prints", String.join("\n", dueLines(example)), () -> printed);
        namesAll(String.join("\n", readme));
        Check.end();
    }

    private static List<String> javaBlock(List<String> readme) {
        List<String> block = new ArrayList<>();
        boolean isInside = false;
        for (String line : readme) {
            if (line.startsWith("```")) {
                isInside = line.equals("```java");
            } else if (isInside) {
                block.add(line);
            }
        }
        return block;
    }

    /** What stands in the comments behind the lines that print. */
    private static List<String> dueLines(List<String> example) {
        List<String> due = new ArrayList<>();
        for (String line : example) {
            if (line.contains(PRINT)) {
                due.add(line.contains(SAYS) ? line.substring(line.indexOf(SAYS) + SAYS.length()) : "nothing is said");
            }
        }
        return due;
    }

    private static String printedBy(List<String> example) throws Exception {
        Path folder = Files.createTempDirectory("readme");
        Path file = folder.resolve("Example.java");
        Path built = folder.resolve("Example.class");
        PrintStream console = System.out;
        try {
            Files.write(file, example);
            int wrong = ToolProvider.getSystemJavaCompiler().run(null, null, null, "-Xlint:all", "-Werror",
                    "-classpath", System.getProperty("java.class.path"), "-d", folder.toString(), file.toString());
            Check.due("the example compiles", 0, () -> wrong);
            if (wrong != 0) {
                return "";
            }
            ByteArrayOutputStream bytes = new ByteArrayOutputStream();
            System.setOut(new PrintStream(bytes, true, StandardCharsets.UTF_8));
            runMain(folder);
            return bytes.toString(StandardCharsets.UTF_8).stripTrailing().replace(System.lineSeparator(), "\n");
        } finally {
            System.setOut(console);
            Files.deleteIfExists(built);
            Files.deleteIfExists(file);
            Files.deleteIfExists(folder);
        }
    }

    private static void runMain(Path folder) throws Exception {
        try (URLClassLoader loader = new URLClassLoader(new URL[] {folder.toUri().toURL()})) {
            Method main = loader.loadClass("Example").getMethod("main", String[].class);
            main.invoke(null, (Object) new String[0]);
        }
    }

    private static void namesAll(String readme) throws IOException {
        for (Method method : Entropiary.class.getDeclaredMethods()) {
            String name = method.getName();
            if (Modifier.isPublic(method.getModifiers())) {
                Check.due("README names " + name, true, () -> readme.contains("`" + name + "`"));
            }
        }
        try (Stream<Path> files = Files.list(Path.of("src", "test", "java"))) {
            for (Path file : (Iterable<Path>) files.sorted()::iterator) {
                String name = file.getFileName().toString().replace(".java", "");
                Check.due("README names " + name, true, () -> name.equals("Check") || readme.contains("`" + name + "`"));
            }
        }
    }
}
