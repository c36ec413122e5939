import java.io.IOException;
import java.net.URL;
import java.net.URLClassLoader;
import java.nio.file.Files;
import java.nio.file.Path;
import java.util.ArrayList;
import java.util.List;
import java.util.regex.Matcher;
import java.util.regex.Pattern;
import java.util.spi.ToolProvider;

/** README.md: each line of its Java answers what stands behind it, all of them in one run. */
public final class ReadmeTest {
    private static final Kit kit = new Kit();
    private static final Pattern ANSWERED = Pattern.compile("(?:int (\\w+) = )?(.*); +// ([^:\\s]+)(?::.*)?");

    public static void main(String[] args) throws Exception {
        List<String> lines = javaLines(Files.readAllLines(Path.of("README.md")));
        String program = programOf(lines);
        Path made = Files.createTempDirectory("readme");
        Path source = made.resolve("ReadmeLines.java");
        Files.writeString(source, program);
        ToolProvider compiler = ToolProvider.findFirst("javac").orElseThrow();
        int refused = compiler.run(System.out, System.out, "-nowarn", "-cp", System.getProperty("java.class.path"),
            "-d", made.toString(), source.toString());
        kit.due("README's lines compile", 0, () -> refused);
        if (refused == 0) {
            compareAnswers(lines, made);
        }
        remove(made);
        kit.finish();
    }

    /** The lines of all blocks that are Java. */
    private static List<String> javaLines(List<String> readme) {
        List<String> lines = new ArrayList<>();
        boolean isInside = false;
        for (String line : readme) {
            if (line.startsWith("```")) {
                isInside = line.equals("```java");
            } else if (isInside) {
                lines.add(line);
            }
        }
        return lines;
    }

    /** A program that gathers the answers of all lines behind which one stands. */
    private static String programOf(List<String> lines) {
        StringBuilder program = new StringBuilder("public final class ReadmeLines {\n"
            + "    public static java.util.List<String> answers() {\n"
            + "        java.util.List<String> answers = new java.util.ArrayList<>();\n");
        for (String line : lines) {
            Matcher answered = ANSWERED.matcher(line);
            if (!answered.matches()) {
                program.append(line).append('\n');
            } else if (answered.group(1) != null) {
                program.append(line).append("\nanswers.add(String.valueOf(").append(answered.group(1)).append("));\n");
            } else {
                program.append("try {\nanswers.add(String.valueOf(").append(answered.group(2)).append("));\n")
                    .append("} catch (RuntimeException e) {\n")
                    .append("answers.add(\"throws.\" + e.getClass().getSimpleName());\n}\n");
            }
        }
        return program.append("        return answers;\n    }\n}\n").toString();
    }

    private static void compareAnswers(List<String> lines, Path made) throws Exception {
        List<?> answers;
        try (URLClassLoader loader = new URLClassLoader(new URL[] {made.toUri().toURL()})) {
            answers = (List<?>) loader.loadClass("ReadmeLines").getMethod("answers").invoke(null);
        }
        int at = 0;
        for (String line : lines) {
            Matcher answered = ANSWERED.matcher(line);
            if (answered.matches()) {
                Object answer = answers.get(at);
                kit.due(line, answered.group(3), () -> answer);
                at++;
            }
        }
        int compared = at;
        kit.due("README shows each call of the document", "", () -> missingCalls(lines));
        kit.due("README's answers are many", true, () -> compared >= 49);
    }

    /** The public calls that no line shows. */
    private static String missingCalls(List<String> lines) {
        StringBuilder missing = new StringBuilder();
        for (java.lang.reflect.Method method : Discoverhall.class.getMethods()) {
            boolean isShown = lines.stream().anyMatch(line -> line.contains("hall." + method.getName() + "("));
            if (method.getDeclaringClass() == Discoverhall.class && !isShown) {
                missing.append(method.getName()).append(' ');
            }
        }
        return missing.toString();
    }

    private static void remove(Path made) throws IOException {
        try (var files = Files.list(made)) {
            for (Path file : files.toList()) {
                Files.delete(file);
            }
        }
        Files.delete(made);
    }
}
