import java.io.ByteArrayOutputStream;
import java.io.IOException;
import java.io.PrintStream;
import java.net.URL;
import java.net.URLClassLoader;
import java.nio.charset.StandardCharsets;
import java.nio.file.Files;
import java.nio.file.Path;
import java.util.List;
import javax.tools.JavaCompiler;
import javax.tools.ToolProvider;

/** The program that README.md shows compiles, and prints what README.md says. */
public final class ReadmeTest {
    public static void main(String[] args) throws IOException, ReflectiveOperationException {
        Check check = new Check("ReadmeTest");
        List<String> lines = Files.readAllLines(Path.of("README.md"));
        Path directory = Files.createTempDirectory("readme");
        Path source = directory.resolve("Example.java");
        try {
            Files.writeString(source, block(lines, "```java"));
            JavaCompiler compiler = ToolProvider.getSystemJavaCompiler();
            int code = compiler.run(null, null, null, "-Xlint:all", "-Werror", "-cp", System.getProperty("java.class.path"),
                    "-d", directory.toString(), source.toString());
            check.due("the program compiles", code, 0);
            check.dueText("what the program prints", code == 0 ? printed(directory) : "", block(lines, "```text"));
        } finally {
            Files.deleteIfExists(source);
            Files.deleteIfExists(directory.resolve("Example.class"));
            Files.deleteIfExists(directory);
        }
        check.end();
    }

    private static String block(List<String> lines, String head) {
        StringBuilder block = new StringBuilder();
        for (int i = lines.indexOf(head) + 1; i > 0 && i < lines.size() && !lines.get(i).equals("```"); i++) {
            block.append(lines.get(i)).append('\n');
        }
        return block.toString();
    }

    private static String printed(Path directory) throws IOException, ReflectiveOperationException {
        PrintStream old = System.out;
        ByteArrayOutputStream bytes = new ByteArrayOutputStream();
        try (URLClassLoader loader = new URLClassLoader(new URL[] {directory.toUri().toURL()})) {
            System.setOut(new PrintStream(bytes, true, StandardCharsets.UTF_8));
            loader.loadClass("Example").getMethod("main", String[].class).invoke(null, (Object) new String[0]);
        } finally {
            System.setOut(old);
        }
        return bytes.toString(StandardCharsets.UTF_8).replace(System.lineSeparator(), "\n");
    }
}
