import java.io.IOException;
import java.lang.invoke.MethodHandles;
import java.nio.file.Files;
import java.nio.file.Path;
import java.util.ArrayList;
import java.util.List;
import java.util.regex.Matcher;
import java.util.regex.Pattern;
import java.util.stream.Stream;
import javax.tools.ToolProvider;

/** What README.md says holds: its examples compile and answer as told, and it names each test. */
public final class ReadmeTest {
    private static final Path README = Path.of("README.md");
    private static final Path TESTS = Path.of("src", "test", "java");
    private static final Path INTO = Path.of("build", "readme");
    private static final String NAME = "ReadmeExamples";
    /** A call whose answer gets a name, and behind it what is due, up to a comma or the end. */
    private static final Pattern ANSWERED = Pattern.compile("\\w+ (\\w+) = house\\..*\\); +// ([^ ,]+)(,.*)?");

    private static int answered = 0;

    /** The lines between ```java and ```, for each such place. */
    private static List<List<String>> examples(List<String> lines) {
        List<List<String>> examples = new ArrayList<>();
        boolean isInside = false;
        for (String line : lines) {
            if (line.startsWith("```")) {
                isInside = line.equals("```java");
                if (isInside) {
                    examples.add(new ArrayList<>());
                }
            } else if (isInside) {
                examples.get(examples.size() - 1).add(line);
            }
        }
        return examples;
    }

    /** An example as the body of a method, with a look at each answer that it tells. */
    private static String body(List<String> example) {
        StringBuilder body = new StringBuilder();
        for (String line : example) {
            body.append(line).append('\n');
            Matcher told = ANSWERED.matcher(line);
            boolean isTold = told.matches();
            Story.due("README.md tells what is answered by " + line, isTold || !line.contains("= house."), true);
            if (isTold) {
                answered++;
                body.append("Story.due(\"README.md: ").append(told.group(1)).append("\", String.valueOf(")
                        .append(told.group(1)).append("), \"").append(told.group(2)).append("\");\n");
            }
        }
        return body.toString();
    }

    private static String source(List<List<String>> examples) {
        StringBuilder source = new StringBuilder("public final class " + NAME + " {\n");
        for (int number = 0; number < examples.size(); number++) {
            source.append("public static void example").append(number).append("() {\n")
                    .append(body(examples.get(number))).append("}\n");
        }
        return source.append("}\n").toString();
    }

    private static void compileAndRun(List<List<String>> examples) throws IOException, ReflectiveOperationException {
        Files.createDirectories(INTO);
        Path source = INTO.resolve(NAME + ".java");
        Files.writeString(source, source(examples));
        int failed = ToolProvider.getSystemJavaCompiler().run(null, null, null, "-d", INTO.toString(), "-cp",
                System.getProperty("java.class.path"), source.toString());
        Story.due("README.md: its examples compile", failed, 0);
        if (failed == 0) {
            run(Files.readAllBytes(INTO.resolve(NAME + ".class")), examples.size());
        }
    }

    /** The examples are defined beside this class, as they use Story. */
    private static void run(byte[] compiled, int many) throws ReflectiveOperationException {
        Class<?> made = MethodHandles.lookup().defineClass(compiled);
        for (int number = 0; number < many; number++) {
            made.getMethod("example" + number).invoke(null);
        }
    }

    private static void namesEachTest(String text) throws IOException {
        try (Stream<Path> files = Files.list(TESTS)) {
            for (Path file : files.toList()) {
                String name = file.getFileName().toString().replace(".java", "");
                if (name.endsWith("Test")) {
                    Story.due("README.md names " + name, text.contains("| `" + name + "` |"), true);
                }
            }
        }
        Matcher named = Pattern.compile("\\| `(\\w+)` \\|").matcher(text);
        while (named.find()) {
            Story.due("there is " + named.group(1), Files.exists(TESTS.resolve(named.group(1) + ".java")), true);
        }
    }

    public static void main(String[] args) throws IOException, ReflectiveOperationException {
        List<List<String>> examples = examples(Files.readAllLines(README));
        Story.due("README.md: how many examples", examples.size(), 2);
        compileAndRun(examples);
        Story.due("README.md: how many answers", answered >= 30, true);
        namesEachTest(Files.readString(README));
        Story.due(".ci/run can be executed", Files.isExecutable(Path.of(".ci", "run")), true);
        Story.end("ReadmeTest");
    }
}
