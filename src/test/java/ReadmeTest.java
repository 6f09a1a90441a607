import java.io.IOException;
import java.net.URL;
import java.net.URLClassLoader;
import java.nio.file.Files;
import java.nio.file.Path;
import java.util.ArrayList;
import java.util.List;
import java.util.regex.Matcher;
import java.util.regex.Pattern;
import javax.tools.ToolProvider;

/** README.md's example is compiled as it stands there; each of its answers is the number that its comment begins with. */
public final class ReadmeTest {
    private static final Pattern LINE = Pattern.compile("\\w+ (\\w+) = .*; +// (-?\\d+)\\b.*");

    public static void main(String[] args) throws Exception {
        List<String> example = exampleOf(Path.of("README.md"));
        List<String> names = new ArrayList<>();
        List<String> wants = new ArrayList<>();
        for (String line : example) {
            Matcher matcher = LINE.matcher(line);
            if (matcher.matches()) {
                names.add(matcher.group(1));
                wants.add(matcher.group(2));
            }
        }
        // Every line but the one that makes the object has an answer.
        Check.due("lines with answers", example.size() - 1, () -> names.size());
        Path directory = Files.createTempDirectory("readme");
        Object got = answers(directory, example, names);
        Check.told("the example's answers", String.join(" ", wants), String.valueOf(got));
        Check.end();
    }

    private static List<String> exampleOf(Path readme) throws IOException {
        List<String> lines = Files.readAllLines(readme);
        int from = lines.indexOf("```java") + 1;
        return lines.subList(from, from + lines.subList(from, lines.size()).indexOf("```"));
    }

    private static Object answers(Path directory, List<String> example, List<String> names) throws Exception {
        Path source = directory.resolve("Example.java");
        Files.writeString(source, "public final class Example {\n    public static String answers() {\n"
                + String.join("\n", example)
                + "\n        return \"\" + " + String.join(" + \" \" + ", names) + ";\n    }\n}\n");
        int failed = ToolProvider.getSystemJavaCompiler().run(null, null, null,
                "-cp", System.getProperty("java.class.path"), "-d", directory.toString(), source.toString());
        Check.due("javac of the example", 0, () -> failed);
        try (URLClassLoader loader = new URLClassLoader(new URL[] {directory.toUri().toURL()})) {
            return loader.loadClass("Example").getMethod("answers").invoke(null);
        } finally {
            for (String name : new String[] {"Example.java", "Example.class"}) {
                Files.deleteIfExists(directory.resolve(name));
            }
            Files.delete(directory);
        }
    }
}
