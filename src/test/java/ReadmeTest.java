import java.io.IOException;
import java.lang.reflect.Method;
import java.lang.reflect.Modifier;
import java.net.URL;
import java.net.URLClassLoader;
import java.nio.file.Files;
import java.nio.file.Path;
import java.util.List;
import java.util.regex.Matcher;
import java.util.regex.Pattern;
import java.util.stream.Stream;
import javax.tools.ToolProvider;

/** What README.md shows: its examples are compiled and run, each call with the answer behind its "//". */
public final class ReadmeTest {
    private static final Path README = Path.of("README.md");
    private static final Pattern EXAMPLE = Pattern.compile("```java\n(.*?)```", Pattern.DOTALL);
    private static final Pattern CALL = Pattern.compile("\\s*(x\\.\\w+\\(.*\\)); *// (-?\\d+)(:.*)?");
    private static final String NAME = "ReadmeProgram";

    private static final Checks checks = new Checks("ReadmeTest");

    public static void main(String[] args) throws Exception {
        String readme = Files.readString(README);
        namesOfCalls(readme);
        namesOfTests(readme);
        examples(readme);
        checks.end();
    }

    private static void namesOfCalls(String readme) {
        for (Method method : PushedTillItCatches.class.getDeclaredMethods()) {
            if (Modifier.isPublic(method.getModifiers())) {
                checks.holds(method.getName() + " is named", readme.contains("`" + method.getName() + "`"));
            }
        }
    }

    private static void namesOfTests(String readme) throws IOException {
        try (Stream<Path> files = Files.list(Path.of("src/test/java"))) {
            for (Path file : files.toList()) {
                String name = file.getFileName().toString().replace(".java", "");
                checks.holds(name + " is named", readme.contains("`" + name + "`"));
            }
        }
    }

    private static void examples(String readme) throws Exception {
        StringBuilder program = new StringBuilder("import java.util.ArrayList;\nimport java.util.List;\n");
        program.append("public final class ").append(NAME).append(" {\n");
        program.append("public static List<String> wrong() {\nList<String> wrong = new ArrayList<>();\n");
        int calls = 0;
        Matcher example = EXAMPLE.matcher(readme);
        while (example.find()) {
            for (String line : example.group(1).split("\n")) {
                Matcher call = CALL.matcher(line);
                boolean isCall = call.matches();
                checks.holds("an answer is told: " + line, isCall || !line.contains("x."));
                program.append(isCall ? checked(call.group(1), call.group(2)) : line).append('\n');
                calls += isCall ? 1 : 0;
            }
        }
        program.append("return wrong;\n}\n}\n");
        checks.holds("calls are found: " + calls, calls > 10);
        for (String wrong : resultOf(program.toString())) {
            checks.holds(wrong, false);
        }
    }

    private static String checked(String call, String due) {
        String text = call.replace("\\", "\\\\").replace("\"", "\\\"");
        return "{ long got = " + call + "; if (got != " + due + ") wrong.add(\"" + text + " answered \" + got); }";
    }

    @SuppressWarnings("unchecked")
    private static List<String> resultOf(String program) throws Exception {
        Path directory = Files.createTempDirectory("readme");
        Path source = directory.resolve(NAME + ".java");
        Path compiled = directory.resolve(NAME + ".class");
        try {
            Files.writeString(source, program);
            int code = ToolProvider.getSystemJavaCompiler().run(null, null, null, "-classpath",
                    System.getProperty("java.class.path"), "-d", directory.toString(), source.toString());
            checks.due("javac of the examples", code, 0);
            if (code != 0) {
                return List.of();
            }
            try (URLClassLoader loader = new URLClassLoader(new URL[] {directory.toUri().toURL()})) {
                return (List<String>) loader.loadClass(NAME).getMethod("wrong").invoke(null);
            }
        } finally {
            Files.deleteIfExists(source);
            Files.deleteIfExists(compiled);
            Files.deleteIfExists(directory);
        }
    }
}
