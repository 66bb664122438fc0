import java.io.ByteArrayOutputStream;
import java.io.IOException;
import java.io.PrintStream;
import java.net.URL;
import java.net.URLClassLoader;
import java.nio.charset.StandardCharsets;
import java.nio.file.Files;
import java.nio.file.Path;
import java.util.List;
import java.util.stream.Stream;
import javax.tools.ToolProvider;

/** README.md keeps its word: its program prints what it says, and each test is named there. */
public final class ReadmeTest {
    private static final Check CHECK = new Check();

    public static void main(String[] args) throws IOException, ReflectiveOperationException {
        String readme = Files.readString(Path.of("README.md"));
        CHECK.is("what the program of README.md prints", printedBy(block(readme, "```java\n")), block(readme, "```text\n"));
        try (Stream<Path> files = Files.list(Path.of("src/test/java"))) {
            for (Path file : files.toList()) {
                String name = file.getFileName().toString().replace(".java", "");
                CHECK.is("README.md names " + name, readme.contains("`" + name + "`"), true);
            }
        }
        CHECK.end();
    }

    private static String block(String readme, String begin) {
        int from = readme.indexOf(begin) + begin.length();
        return readme.substring(from, readme.indexOf("```", from));
    }

    private static String printedBy(String program) throws IOException, ReflectiveOperationException {
        Path folder = Files.createDirectories(Path.of("build/readme"));
        Path file = Files.writeString(folder.resolve("Example.java"), program);
        String classes = System.getProperty("java.class.path");
        List<String> options = List.of("-cp", classes, "-d", folder.toString(), file.toString());
        int failed = ToolProvider.getSystemJavaCompiler().run(null, null, null, options.toArray(new String[0]));
        CHECK.is("the program of README.md is compiled", failed, 0);
        PrintStream before = System.out;
        ByteArrayOutputStream printed = new ByteArrayOutputStream();
        try (URLClassLoader loader = new URLClassLoader(new URL[] {folder.toUri().toURL()})) {
            System.setOut(new PrintStream(printed, true, StandardCharsets.UTF_8));
            loader.loadClass("Example").getMethod("main", String[].class).invoke(null, (Object) new String[0]);
        } finally {
            System.setOut(before);
        }
        return printed.toString(StandardCharsets.UTF_8).replace(System.lineSeparator(), "\n");
    }
}
