import java.io.ByteArrayOutputStream;
import java.io.IOException;
import java.io.PrintStream;
import java.net.URL;
import java.net.URLClassLoader;
import java.nio.charset.StandardCharsets;
import java.nio.file.Files;
import java.nio.file.Path;
import java.util.spi.ToolProvider;
import java.util.stream.Stream;

/** The program of README.md is compiled and run as it stands there; .ci/run starts this where README.md is. */
public final class ReadmeTest {
    public static void main(String[] args) throws ReflectiveOperationException, IOException {
        String readme = Files.readString(Path.of("README.md"));
        Path folder = Files.createTempDirectory("readme");
        try {
            Path program = folder.resolve("Example.java");
            Files.writeString(program, block(readme, "java"));
            int refused = javac("-cp", System.getProperty("java.class.path"), "-d", folder.toString(), program.toString());
            Bench.due("javac Example.java", 0, () -> refused);
            if (refused == 0) {
                Bench.same("java Example", block(readme, "text"), printed(folder));
            }
        } finally {
            remove(folder);
        }
        callsAreTold(readme);
        Bench.end();
    }

    /** The first part of a text between a fence of the given kind and the next fence. */
    private static String block(String text, String kind) {
        String fence = "```";
        int from = text.indexOf(fence + kind + "\n") + fence.length() + kind.length() + 1;
        return text.substring(from, text.indexOf(fence, from));
    }

    private static int javac(String... words) {
        return ToolProvider.findFirst("javac").orElseThrow().run(System.out, System.out, words);
    }

    private static String printed(Path folder) throws ReflectiveOperationException, IOException {
        PrintStream usual = System.out;
        ByteArrayOutputStream bytes = new ByteArrayOutputStream();
        try (URLClassLoader loader = new URLClassLoader(new URL[] {folder.toUri().toURL()})) {
            System.setOut(new PrintStream(bytes, true, StandardCharsets.US_ASCII));
            loader.loadClass("Example").getMethod("main", String[].class).invoke(null, (Object) new String[0]);
        } finally {
            System.setOut(usual);
        }
        return bytes.toString(StandardCharsets.US_ASCII).replace(System.lineSeparator(), "\n");
    }

    private static void remove(Path folder) throws IOException {
        try (Stream<Path> files = Files.list(folder)) {
            for (Path file : files.toList()) {
                Files.delete(file);
            }
        }
        Files.delete(folder);
    }

    /** Every call of the face stands in the table, and how the tests are run is told. */
    private static void callsAreTold(String readme) {
        String[] calls = {"type(bytes, n)", "line(module)", "clear(module)", "link()", "far()", "image(i)",
            "place(module, k)", "show(word)", "letter(k)", "lines(module)"};
        for (String call : calls) {
            Bench.same("README.md tells of " + call, "true", Boolean.toString(readme.contains("\n| `" + call + "` |")));
        }
        Bench.same("README.md tells of .ci/run", "true", Boolean.toString(readme.contains("```sh\n.ci/run\n```")));
    }
}
