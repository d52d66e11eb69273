import java.io.ByteArrayOutputStream;
import java.io.IOException;
import java.io.PrintStream;
import java.net.URL;
import java.net.URLClassLoader;
import java.nio.charset.StandardCharsets;
import java.nio.file.Files;
import java.nio.file.Path;
import java.util.Comparator;
import java.util.List;
import java.util.stream.Collectors;
import java.util.stream.Stream;
import javax.tools.ToolProvider;

/** The program in README.md compiles with the class, and prints what README.md says. */
public final class ReadmeTest {
    public static void main(String[] args) throws IOException, ReflectiveOperationException {
        String page = Files.readString(Path.of("README.md"));
        Path folder = Files.createTempDirectory("readme");
        try {
            compile(folder, block(page, "java"));
            Asked.same("what the program prints", printed(folder), block(page, "text"));
        } finally {
            remove(folder);
        }
        namesEveryTest(page);
        Asked.close();
    }

    /** What stands between the marks of the first block of a kind. */
    private static String block(String page, String kind) {
        int from = page.indexOf("```" + kind + "\n");
        int to = page.indexOf("\n```", from + 1);
        Asked.due("README.md has a block of " + kind, from >= 0 && to > from ? 1 : 0, 1);
        return from >= 0 && to > from ? page.substring(from + kind.length() + 4, to) + "\n" : "";
    }

    private static void compile(Path folder, String program) throws IOException {
        Path file = folder.resolve("Example.java");
        Files.writeString(file, program);
        int code = ToolProvider.getSystemJavaCompiler().run(null, null, null, "-Xlint:all", "-Werror", "-cp",
            System.getProperty("java.class.path"), "-d", folder.toString(), file.toString());
        Asked.due("javac of the program", code, 0);
    }

    private static String printed(Path folder) throws IOException, ReflectiveOperationException {
        PrintStream own = System.out;
        ByteArrayOutputStream bytes = new ByteArrayOutputStream();
        try (URLClassLoader loader = new URLClassLoader(new URL[] {folder.toUri().toURL()})) {
            System.setOut(new PrintStream(bytes, true, StandardCharsets.UTF_8));
            loader.loadClass("Example").getMethod("main", String[].class).invoke(null, (Object) new String[0]);
        } finally {
            System.setOut(own);
        }
        return bytes.toString(StandardCharsets.UTF_8).replace(System.lineSeparator(), "\n");
    }

    private static void remove(Path folder) throws IOException {
        List<Path> files;
        try (Stream<Path> all = Files.walk(folder)) {
            files = all.sorted(Comparator.reverseOrder()).collect(Collectors.toList());
        }
        for (Path file : files) {
            Files.delete(file);
        }
    }

    private static void namesEveryTest(String page) throws IOException {
        try (Stream<Path> files = Files.list(Path.of("src/test/java"))) {
            for (Path file : files.collect(Collectors.toList())) {
                String name = file.getFileName().toString().replace(".java", "");
                if (name.endsWith("Test")) {
                    Asked.due("README.md names " + name, page.contains(name) ? 1 : 0, 1);
                }
            }
        }
    }
}
