import java.io.ByteArrayOutputStream;
import java.io.IOException;
import java.io.PrintStream;
import java.net.URL;
import java.net.URLClassLoader;
import java.nio.charset.StandardCharsets;
import java.nio.file.Files;
import java.nio.file.Path;
import java.util.Comparator;
import java.util.List;
import java.util.stream.Stream;
import javax.tools.ToolProvider;

/** The example in README.md compiles, and prints what README.md says; run at the project's root. */
public final class ReadmeTest {
    private static final Check CHECK = new Check("readme");

    public static void main(String[] args) throws IOException, ReflectiveOperationException {
        String readme = Files.readString(Path.of("README.md"));
        Path folder = Files.createTempDirectory("readme");
        try {
            Path source = folder.resolve("Example.java");
            Files.writeString(source, block(readme, "java"));
            CHECK.same("javac of the example", compile(folder, source), 0);
            CHECK.text("the example", printed(folder), block(readme, "text"));
        } finally {
            remove(folder);
        }
        namesEachCall(readme);
        CHECK.close();
    }

    private static String block(String readme, String kind) {
        String head = "\n```" + kind + "\n";
        int from = readme.indexOf(head);
        int to = from < 0 ? -1 : readme.indexOf("```\n", from + head.length());
        if (to < 0) {
            throw new IllegalStateException("README.md has no block of " + kind);
        }
        return readme.substring(from + head.length(), to);
    }

    private static int compile(Path folder, Path source) {
        return ToolProvider.getSystemJavaCompiler().run(null, null, null, "-Xlint:all", "-Werror",
                "-cp", System.getProperty("java.class.path"), "-d", folder.toString(), source.toString());
    }

    private static String printed(Path folder) throws IOException, ReflectiveOperationException {
        ByteArrayOutputStream bytes = new ByteArrayOutputStream();
        PrintStream before = System.out;
        try (URLClassLoader loader = new URLClassLoader(new URL[] {folder.toUri().toURL()})) {
            System.setOut(new PrintStream(bytes, true, StandardCharsets.UTF_8));
            loader.loadClass("Example").getMethod("main", String[].class).invoke(null, (Object) new String[0]);
        } finally {
            System.setOut(before);
        }
        return bytes.toString(StandardCharsets.UTF_8).replace("\r\n", "\n");
    }

    /** What README.md has to tell of is named there. */
    private static void namesEachCall(String readme) {
        for (String name : List.of("feed(", "end(", "pool()", "sample()", "fault(0)", "fault(1)", ".ci/run")) {
            CHECK.text("README.md with " + name, readme.contains(name) ? name : "", name);
        }
    }

    private static void remove(Path folder) throws IOException {
        try (Stream<Path> files = Files.walk(folder)) {
            for (Path file : files.sorted(Comparator.reverseOrder()).toList()) {
                Files.delete(file);
            }
        }
    }
}
