import java.io.IOException;
import java.net.URL;
import java.net.URLClassLoader;
import java.nio.file.Files;
import java.nio.file.Path;
import java.util.List;
import java.util.regex.Matcher;
import java.util.regex.Pattern;
import javax.tools.ToolProvider;

/**
 * Runs the examples of README.md (.ci/run starts it in the project's root). Each becomes a class whose
 * main method makes the calls and compares each answer with the one that stands first behind it.
 */
public final class ReadmeTest {
    private static final Pattern EXAMPLE = Pattern.compile("```java\\n(.*?)```", Pattern.DOTALL);
    private static final Pattern LINE = Pattern.compile("((?:int \\w+ = )?)(dispatch\\..*?); +// ([^:]+): .+");
    private static final Due DUE = new Due();

    public static void main(String[] args) throws Exception {
        Path dir = Files.createTempDirectory("readme");
        int examples = 0;
        Matcher example = EXAMPLE.matcher(Files.readString(Path.of("README.md")));
        while (example.find()) {
            examples++;
            DUE.part("README.md, example " + examples);
            runExample(dir, "Example" + examples, example.group(1));
        }
        DUE.is("examples found", 2, examples);
        delete(dir);
        DUE.end();
    }

    /** For the class that an example becomes. */
    public static void answered(String call, Object want, Object got) {
        DUE.yes(call + " answered " + got + " where README.md has " + want, want.equals(got));
    }

    private static void runExample(Path dir, String name, String example) throws Exception {
        Path source = dir.resolve(name + ".java");
        Files.writeString(source, asClass(name, example));
        String classes = System.getProperty("java.class.path");
        int code = ToolProvider.getSystemJavaCompiler().run(null, null, null,
                "-cp", classes, "-d", dir.toString(), source.toString());
        DUE.is("the compiler's exit code", 0, code);
        if (code == 0) {
            try (URLClassLoader loader = new URLClassLoader(new URL[] {dir.toUri().toURL()})) {
                loader.loadClass(name).getMethod("run").invoke(null);
            }
        }
    }

    private static String asClass(String name, String example) {
        StringBuilder text = new StringBuilder();
        text.append("public class ").append(name).append(" {\n    public static void run() {\n");
        List<String> lines = example.lines().toList();
        text.append(lines.get(0)).append('\n');
        for (String line : lines.subList(1, lines.size())) {
            Matcher parts = LINE.matcher(line);
            DUE.yes("a call with its answer: " + line, parts.matches());
            if (parts.matches()) {
                text.append(asLines(parts.group(1), parts.group(2), parts.group(3)));
            }
        }
        return text.append("    }\n}\n").toString();
    }

    private static String asLines(String variable, String call, String want) {
        String got = variable.isEmpty() ? call : variable.split(" ")[1];
        String kept = variable.isEmpty() ? "" : variable + call + ";\n";
        return kept + "ReadmeTest.answered(\"" + call + "\", " + want + ", " + got + ");\n";
    }

    private static void delete(Path dir) throws IOException {
        try (var files = Files.list(dir)) {
            for (Path file : files.toList()) {
                Files.delete(file);
            }
        }
        Files.delete(dir);
    }
}
