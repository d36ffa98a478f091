import java.io.IOException;
import java.net.URL;
import java.net.URLClassLoader;
import java.nio.file.Files;
import java.nio.file.Path;
import java.util.ArrayList;
import java.util.List;
import java.util.regex.Matcher;
import java.util.regex.Pattern;
import javax.tools.ToolProvider;

/** Runs the calls of README.md as they stand there, and compares the answers it tells. */
public final class ReadmeTest {
    private static final Pattern CALL =
            Pattern.compile("(desk\\..*);\\s*// (-?\\d+|true|false)\\b.*");
    private static final int LEAST_CALLS = 20;

    public static void main(String[] args) throws Exception {
        List<List<String>> blocks = blocksOf(Files.readAllLines(Path.of("README.md")));
        Check.due("java blocks of README.md", blocks.size(), 2);
        if (blocks.size() == 2) {
            run(programOf(blocks.get(0), blocks.get(1)));
        }
        Check.endOf("ReadmeTest");
    }

    private static List<List<String>> blocksOf(List<String> lines) {
        List<List<String>> blocks = new ArrayList<>();
        boolean inside = false;
        for (String line : lines) {
            if (line.startsWith("```")) {
                inside = line.equals("```java");
                if (inside) {
                    blocks.add(new ArrayList<>());
                }
            } else if (inside) {
                blocks.get(blocks.size() - 1).add(line);
            }
        }
        return blocks;
    }

    private static String programOf(List<String> method, List<String> calls) {
        StringBuilder program = new StringBuilder("public final class Readme {\n");
        program.append(String.join("\n", method));
        program.append("\npublic static void run() {\n");
        int answers = 0;
        for (String line : calls) {
            Matcher call = CALL.matcher(line);
            if (call.matches()) {
                answers++;
                program.append("Check.due(\"README: ").append(call.group(1)).append("\", ")
                        .append(call.group(1)).append(", ").append(call.group(2)).append(");\n");
            } else {
                program.append(line).append("\n");
            }
        }
        Check.due("calls with their answers", answers >= LEAST_CALLS, true);
        return program.append("}\n}\n").toString();
    }

    private static void run(String program) throws IOException, ReflectiveOperationException {
        Path directory = Files.createTempDirectory("readme");
        Path source = directory.resolve("Readme.java");
        Files.writeString(source, program);
        String classPath = System.getProperty("java.class.path");
        int code = ToolProvider.getSystemJavaCompiler().run(null, null, null,
                "-cp", classPath, "-d", directory.toString(), source.toString());
        Check.due("README.md compiles", code, 0);
        if (code == 0) {
            URL[] made = {directory.toUri().toURL()};
            try (URLClassLoader loader = new URLClassLoader(made)) {
                loader.loadClass("Readme").getMethod("run").invoke(null);
            }
        }
        Files.deleteIfExists(directory.resolve("Readme.class"));
        Files.delete(source);
        Files.delete(directory);
    }
}
