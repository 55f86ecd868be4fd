import java.io.ByteArrayOutputStream;
import java.io.IOException;
import java.io.PrintStream;
import java.lang.reflect.Method;
import java.lang.reflect.Modifier;
import java.net.URL;
import java.net.URLClassLoader;
import java.nio.charset.StandardCharsets;
import java.nio.file.DirectoryStream;
import java.nio.file.Files;
import java.nio.file.Path;
import javax.tools.JavaCompiler;
import javax.tools.ToolProvider;

/** README.md keeps its word: its example compiles and prints what it says, and no call and no test is left out. */
public final class ReadmeTest {
    private static final Path TESTS = Path.of("src", "test", "java");

    public static void main(String[] args) throws Exception {
        String readme = Files.readString(Path.of("README.md"));
        example(readme);
        namesEachCall(readme);
        namesEachTest(readme);
        namesTestsThatAreThere(readme);
        Probe.end();
    }

    private static void example(String readme) throws Exception {
        String due = block(readme, "text");
        Path folder = Files.createTempDirectory("readme");
        try {
            Path source = folder.resolve("Example.java");
            Files.writeString(source, block(readme, "java"));
            boolean compiles = compiles(source, folder);
            Probe.due("the example compiles", true, compiles);
            if (compiles) {
                Probe.due("the example prints", due, printed(folder));
            }
        } finally {
            delete(folder);
        }
    }

    /** The first block of a kind, without its fences. */
    private static String block(String readme, String kind) {
        String fence = "\n```" + kind + "\n";
        int start = readme.indexOf(fence);
        Probe.due("README.md has a block of " + kind, true, start >= 0);
        int from = start + fence.length();
        return start < 0 ? "" : readme.substring(from, readme.indexOf("\n```\n", from) + 1);
    }

    private static boolean compiles(Path source, Path folder) {
        JavaCompiler javac = ToolProvider.getSystemJavaCompiler();
        String classes = System.getProperty("java.class.path");
        return javac != null && javac.run(null, null, null, "--release", "17", "-Xlint:all", "-Werror",
                "-cp", classes, "-d", folder.toString(), source.toString()) == 0;
    }

    private static String printed(Path folder) throws Exception {
        ByteArrayOutputStream bytes = new ByteArrayOutputStream();
        PrintStream console = System.out;
        URL[] where = {folder.toUri().toURL()};
        try (URLClassLoader loader = new URLClassLoader(where); PrintStream kept = new PrintStream(bytes, true, StandardCharsets.UTF_8)) {
            Method main = loader.loadClass("Example").getMethod("main", String[].class);
            System.setOut(kept);
            main.invoke(null, (Object) new String[0]);
        } finally {
            System.setOut(console);
        }
        return bytes.toString(StandardCharsets.UTF_8).replace(System.lineSeparator(), "\n");
    }

    private static void delete(Path folder) throws IOException {
        try (DirectoryStream<Path> files = Files.newDirectoryStream(folder)) {
            for (Path file : files) {
                Files.delete(file);
            }
        }
        Files.delete(folder);
    }

    private static void namesEachCall(String readme) {
        for (Method m : LineTalk.class.getDeclaredMethods()) {
            if (Modifier.isPublic(m.getModifiers())) {
                int start = readme.indexOf("\n| `" + m.getName() + "(");
                Probe.due(m.getName() + " has a row", true, start >= 0);
                if (start >= 0) {
                    String with = readme.substring(readme.indexOf('(', start) + 1, readme.indexOf(')', start));
                    int told = with.isEmpty() ? 0 : with.split(",").length;
                    Probe.due(m.getName() + " has so many arguments", m.getParameterCount(), told);
                }
            }
        }
    }

    private static void namesEachTest(String readme) throws IOException {
        try (DirectoryStream<Path> files = Files.newDirectoryStream(TESTS, "*Test.java")) {
            for (Path file : files) {
                String name = file.getFileName().toString().replace(".java", "");
                Probe.due(name + " has a row", true, readme.contains("\n| `" + name + "` |"));
            }
        }
    }

    /** What stands as `SomeTest` or `SomeTest.method` is there. */
    private static void namesTestsThatAreThere(String readme) throws IOException {
        String[] parts = readme.split("`");
        for (String part : parts) {
            if (part.matches("\\w+Test(\\.\\w+)?")) {
                String[] names = part.split("\\.");
                Path file = TESTS.resolve(names[0] + ".java");
                Probe.due(names[0] + " is there", true, Files.exists(file));
                if (names.length == 2 && Files.exists(file)) {
                    Probe.due(part + " is there", true, Files.readString(file).contains(" void " + names[1] + "("));
                }
            }
        }
    }
}
