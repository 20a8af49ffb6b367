import java.io.ByteArrayOutputStream;
import java.io.IOException;
import java.io.PrintStream;
import java.net.URL;
import java.net.URLClassLoader;
import java.nio.charset.StandardCharsets;
import java.nio.file.Files;
import java.nio.file.Path;
import javax.tools.ToolProvider;

/** The program in README.md can be compiled, and it prints what README.md says. */
public final class ReadmeTest {
    public static void main(String[] args) throws IOException, ReflectiveOperationException {
        String readme = Files.readString(Path.of("README.md"));
        Path directory = Files.createDirectories(Path.of("build/readme"));
        Path source = directory.resolve("Example.java");
        Files.writeString(source, block(readme, "java"));
        Check.begin("README.md");
        Check.is("the program is compiled", 0, () -> ToolProvider.getSystemJavaCompiler().run(null, null, null,
            "-cp", System.getProperty("java.class.path"), "-d", directory.toString(), source.toString()));
        Check.same("what it prints", block(readme, "text"), printed(directory));
        Check.finish("ReadmeTest");
    }

    private static String block(String readme, String kind) {
        String begin = "```" + kind + "\n";
        int start = readme.indexOf(begin) + begin.length();
        return readme.substring(start, readme.indexOf("```", start));
    }

    private static String printed(Path directory) throws IOException, ReflectiveOperationException {
        ByteArrayOutputStream bytes = new ByteArrayOutputStream();
        PrintStream before = System.out;
        try (URLClassLoader loader = new URLClassLoader(new URL[] {directory.toUri().toURL()});
            PrintStream caught = new PrintStream(bytes, true, StandardCharsets.UTF_8)) {
            System.setOut(caught);
            loader.loadClass("Example").getMethod("main", String[].class).invoke(null, (Object) new String[0]);
        } finally {
            System.setOut(before);
        }
        return bytes.toString(StandardCharsets.UTF_8).replace("\r\n", "\n");
    }
}
