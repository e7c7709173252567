import java.io.IOException;
import java.lang.reflect.InvocationTargetException;
import java.net.URL;
import java.net.URLClassLoader;
import java.nio.file.Files;
import java.nio.file.Path;
import java.util.ArrayList;
import java.util.List;
import java.util.regex.Matcher;
import java.util.regex.Pattern;
import javax.tools.JavaCompiler;
import javax.tools.ToolProvider;

/** README.md: its blocks of Java, one behind the other, are a program that answers what stands behind each //. */
public final class ReadmeTest {
    private static final Check CHECK = new Check("README.md");
    private static final Pattern ANSWERED = Pattern.compile("(int \\w+ = )?(x\\.\\w+\\(.*\\));\\s*// (-?\\d+)\\b.*");

    private ReadmeTest() {
    }

    public static void main(String[] args) throws IOException, ReflectiveOperationException {
        List<String> calls = new ArrayList<>();
        List<Long> due = new ArrayList<>();
        String program = program(Files.readAllLines(Path.of("README.md")), calls, due);
        List<Long> answers = run(program);
        CHECK.due("calls that are answered", answers.size(), due.size());
        for (int i = 0; i < due.size() && i < answers.size(); i++) {
            CHECK.due(calls.get(i), answers.get(i), due.get(i));
        }
        CHECK.end();
    }

    private static String program(List<String> lines, List<String> calls, List<Long> due) {
        StringBuilder program = new StringBuilder("public final class Readme {\n"
            + "public static void run(java.util.List<Long> answers) {\n");
        boolean java = false;
        for (String line : lines) {
            Matcher answered = ANSWERED.matcher(line);
            if (line.startsWith("```")) {
                java = line.equals("```java");
            } else if (java && answered.matches()) {
                calls.add(answered.group(2));
                due.add(Long.parseLong(answered.group(3)));
                String name = answered.group(1) == null ? "" : answered.group(1);
                program.append(name.isEmpty() ? "" : name + answered.group(2) + ";\n");
                program.append("answers.add((long) ");
                program.append(name.isEmpty() ? answered.group(2) : name.split(" ")[1]).append(");\n");
            } else if (java) {
                CHECK.that("a line that is answered or needs no answer: " + line, !line.contains("//"));
                program.append(line).append('\n');
            }
        }
        return program.append("}\n}\n").toString();
    }

    private static List<Long> run(String program) throws IOException, ReflectiveOperationException {
        Path folder = Files.createTempDirectory("readme");
        Path source = folder.resolve("Readme.java");
        Path compiled = folder.resolve("Readme.class");
        List<Long> answers = new ArrayList<>();
        try {
            Files.writeString(source, program);
            JavaCompiler compiler = ToolProvider.getSystemJavaCompiler();
            int failed = compiler.run(null, System.out, System.out, "-d", folder.toString(),
                "-cp", System.getProperty("java.class.path"), source.toString());
            CHECK.due("the compiler", failed, 0);
            if (failed == 0) {
                try (URLClassLoader loader = new URLClassLoader(new URL[] {folder.toUri().toURL()})) {
                    loader.loadClass("Readme").getMethod("run", List.class).invoke(null, answers);
                }
            }
        } catch (InvocationTargetException e) {
            CHECK.that("it throws " + e.getCause(), false);
        } finally {
            Files.deleteIfExists(compiled);
            Files.deleteIfExists(source);
            Files.deleteIfExists(folder);
        }
        return answers;
    }
}
