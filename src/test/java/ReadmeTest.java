import java.nio.file.Files;
import java.nio.file.Path;
import java.util.ArrayList;
import java.util.List;
import java.util.regex.Matcher;
import java.util.regex.Pattern;
import javax.tools.ToolProvider;

/** The example in README.md can be compiled, and its calls answer what stands behind them. */
public final class ReadmeTest {
    private static final Pattern BLOCK = Pattern.compile("(?s)```java\n(.*?)```");
    private static final Pattern ASKED = Pattern.compile("(hall\\.\\w+\\(.*\\));\\s+// (throws \\w+|[-\\w]+).*");

    public static void main(String[] args) throws Exception {
        List<String> blocks = blocks(Files.readString(Path.of("README.md")));
        Check.due("blocks of README.md", 2, blocks.size());
        // Beside this test's own class, as what is package-visible in Check is asked for.
        Path folder = Path.of(ReadmeTest.class.getProtectionDomain().getCodeSource().getLocation().toURI());
        Path source = folder.resolve("ReadmeExample.java");
        Files.writeString(source, "public final class ReadmeExample {\n" + blocks.get(0)
                + "static void ask() {\n" + asking(blocks.get(1)) + "}\n}\n");
        int code = ToolProvider.getSystemJavaCompiler().run(null, null, null, "-cp", folder.toString(), "-d",
                folder.toString(), source.toString());
        Check.due("the example can be compiled", 0, code);
        Class.forName("ReadmeExample").getDeclaredMethod("ask").invoke(null);
        Check.end("ReadmeTest");
    }

    private static List<String> blocks(String text) {
        List<String> blocks = new ArrayList<>();
        Matcher found = BLOCK.matcher(text);
        while (found.find()) {
            blocks.add(found.group(1));
        }
        return blocks;
    }

    /** The example's lines, with a question to Check in place of each call that tells its answer. */
    private static String asking(String block) {
        StringBuilder lines = new StringBuilder();
        int calls = 0;
        for (String line : block.split("\n")) {
            Matcher found = ASKED.matcher(line);
            if (found.matches()) {
                String call = found.group(1);
                lines.append("Check.due(\"").append(call).append("\", \"").append(found.group(2))
                        .append("\", Check.outcome(() -> ").append(call).append(").toString());\n");
                calls++;
            } else {
                Check.due("a call tells its answer: " + line, false, line.startsWith("hall."));
                lines.append(line).append('\n');
            }
        }
        Check.due("calls of the example", true, calls > 30);
        return lines.toString();
    }
}
