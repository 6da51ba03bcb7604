import java.io.ByteArrayOutputStream;
import java.io.PrintStream;
import java.net.URL;
import java.net.URLClassLoader;
import java.nio.file.Files;
import java.nio.file.Path;
import java.util.List;
import javax.tools.ToolProvider;

/** README.md's example compiles, prints just what README.md says, and README.md has a row for each call of the face. */
final class ReadmeTest {
    private static final String FENCE = "```";

    public static void main(String[] args) throws Exception {
        List<String> readme = Files.readAllLines(Path.of("README.md"));
        Bench.due("README.md's example", printed(fenced(readme, "java")), fenced(readme, "text"));
        for (java.lang.reflect.Method call : GaugeHouse.class.getDeclaredMethods()) {
            if (!java.lang.reflect.Modifier.isPublic(call.getModifiers())) continue;
            Bench.due("rows of README.md for " + call.getName(), rowsOf(readme, call.getName()), 1);
        }
        Bench.end();
    }

    /** What stands between the first fence with that word and the next one. */
    private static String fenced(List<String> lines, String word) {
        int from = lines.indexOf(FENCE + word) + 1;
        int to = from;
        while (to < lines.size() && !lines.get(to).equals(FENCE)) to++;
        return String.join("\n", lines.subList(from, to)) + "\n";
    }

    private static int rowsOf(List<String> lines, String call) {
        int rows = 0;
        for (String line : lines) {
            if (line.startsWith("| `" + call + "(")) rows++;
        }
        return rows;
    }

    /** What the class Example prints. */
    private static String printed(String program) throws Exception {
        Path folder = Files.createTempDirectory("readme");
        Path source = folder.resolve("Example.java");
        Files.writeString(source, program);
        String classes = System.getProperty("java.class.path");
        int code = ToolProvider.getSystemJavaCompiler().run(null, null, null, "-cp", classes, "-d", folder.toString(), source.toString());
        Bench.due("the compiler's exit code", code, 0);
        if (code != 0) return "";
        ByteArrayOutputStream bytes = new ByteArrayOutputStream();
        PrintStream before = System.out;
        System.setOut(new PrintStream(bytes, true));
        try (URLClassLoader loader = new URLClassLoader(new URL[] {folder.toUri().toURL()})) {
            loader.loadClass("Example").getMethod("main", String[].class).invoke(null, (Object) new String[0]);
        } finally {
            System.setOut(before);
            try (var files = Files.list(folder)) {
                for (Path file : files.toList()) Files.delete(file);
            }
            Files.delete(folder);
        }
        return bytes.toString().replace("\r", "");
    }
}
