import java.io.ByteArrayOutputStream;
import java.io.IOException;
import java.io.PrintStream;
import java.lang.reflect.Method;
import java.lang.reflect.Modifier;
import java.nio.file.Files;
import java.nio.file.Path;
import java.util.List;

/** README.md's example is Example.java, which prints what README.md says; and README.md has a row for each call. */
public final class ReadmeTest {
    private static final String FENCE = "```";

    public static void main(String[] args) throws IOException {
        List<String> readme = Files.readAllLines(Path.of("README.md"));
        List<String> example = Files.readAllLines(Path.of("src/test/java/Example.java"));
        Bench.due("README.md's example", fenced(readme, "java"), joined(example));
        Bench.due("what it prints", printed(), fenced(readme, "text"));
        for (Method call : GaugeHouse.class.getDeclaredMethods()) {
            if (!Modifier.isPublic(call.getModifiers())) continue;
            Bench.due("README.md's rows for " + call.getName(), rowsOf(readme, call.getName()), 1);
        }
        Bench.end();
    }

    private static String joined(List<String> lines) {
        return String.join("\n", lines) + "\n";
    }

    /** What stands between the first fence with that word and the next one. */
    private static String fenced(List<String> lines, String word) {
        int from = lines.indexOf(FENCE + word) + 1;
        int to = from;
        while (to < lines.size() && !lines.get(to).equals(FENCE)) to++;
        return joined(lines.subList(from, to));
    }

    private static int rowsOf(List<String> lines, String call) {
        int rows = 0;
        for (String line : lines) {
            if (line.startsWith("| `" + call + "(")) rows++;
        }
        return rows;
    }

    private static String printed() {
        ByteArrayOutputStream bytes = new ByteArrayOutputStream();
        PrintStream before = System.out;
        System.setOut(new PrintStream(bytes, true));
        try {
            Example.main(new String[0]);
        } finally {
            System.setOut(before);
        }
        return bytes.toString().replace("\r", "");
    }
}
