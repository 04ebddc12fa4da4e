import java.io.File;
import java.io.IOException;
import java.lang.reflect.Method;
import java.lang.reflect.Modifier;
import java.net.URL;
import java.net.URLClassLoader;
import java.nio.file.Files;
import java.nio.file.Path;
import java.util.ArrayList;
import java.util.List;
import java.util.regex.Matcher;
import java.util.regex.Pattern;
import java.util.stream.Stream;
import javax.tools.ToolProvider;

/** What README.md says that calls answer is what they answer; it leaves out no call and no test. */
public final class ReadmeTest extends Checks {
    private static final Pattern BLOCK = Pattern.compile("(?s)```java\n(.*?)```");
    private static final Pattern TOLD = Pattern.compile("(x\\.\\w+\\(.*?\\));\\s*// (-?\\d+)(:.*)?");
    private static final Path TESTS = Path.of("src/test/java");

    private static final List<String> calls = new ArrayList<>();
    private static final List<Long> dues = new ArrayList<>();

    private static String example(String readme) {
        StringBuilder lines = new StringBuilder();
        for (Matcher block = BLOCK.matcher(readme); block.find(); ) {
            lines.append(block.group(1));
        }
        return lines.toString();
    }

    /** The example as a class whose method gives the answers, in their order. */
    private static String asClass(String example) {
        StringBuilder code = new StringBuilder("public final class Example {\n"
                + "public static void run(java.util.List<Long> answers) {\n");
        for (String line : example.split("\n")) {
            Matcher told = TOLD.matcher(line);
            if (told.matches()) {
                calls.add(told.group(1));
                dues.add(Long.parseLong(told.group(2)));
                code.append("answers.add((long) ").append(told.group(1)).append(");\n");
            } else {
                if (line.startsWith("x.")) {
                    wrong("no answer is told: " + line);
                }
                code.append(line).append('\n');
            }
        }
        return code.append("}\n}\n").toString();
    }

    private static List<Long> answers(String code, Path room) throws Exception {
        Path source = room.resolve("Example.java");
        Files.writeString(source, code);
        List<Long> answers = new ArrayList<>();
        int compiled = ToolProvider.getSystemJavaCompiler().run(null, null, null,
                "-cp", System.getProperty("java.class.path"), "-d", room.toString(), source.toString());
        if (compiled != 0) {
            wrong("the example does not compile");
            return answers;
        }
        try (URLClassLoader loader = new URLClassLoader(new URL[] {room.toUri().toURL()})) {
            loader.loadClass("Example").getMethod("run", List.class).invoke(null, answers);
        }
        return answers;
    }

    private static void answersAreAsTold(String example) throws Exception {
        says("README.md: the example");
        String code = asClass(example);
        Path room = Files.createTempDirectory("readme");
        try {
            List<Long> answers = answers(code, room);
            due("calls in the example", answers.size(), calls.size());
            for (int at = 0; at < answers.size(); at++) {
                due(calls.get(at), answers.get(at), dues.get(at));
            }
        } finally {
            remove(room);
        }
    }

    private static void remove(Path room) throws IOException {
        try (Stream<Path> files = Files.list(room)) {
            files.map(Path::toFile).forEach(File::delete);
        }
        Files.delete(room);
    }

    private static void everyCallIsShown(String example) {
        says("README.md says how to use the class");
        for (Method method : WireFamily.class.getDeclaredMethods()) {
            if (Modifier.isPublic(method.getModifiers()) && !example.contains("x." + method.getName() + "(")) {
                wrong("not shown: " + method.getName());
            }
        }
    }

    private static void everyTestIsNamed(String readme) throws IOException {
        says("README.md says how to run the tests");
        if (!readme.contains("\n    .ci/run\n")) {
            wrong(".ci/run is not told");
        }
        try (Stream<Path> files = Files.list(TESTS)) {
            for (Path file : files.toList()) {
                String name = file.getFileName().toString().replace(".java", "");
                if (!readme.contains("`" + name + "`")) {
                    wrong("not named: " + name);
                }
            }
        }
    }

    public static void main(String[] args) throws Exception {
        String readme = Files.readString(Path.of("README.md"));
        String example = example(readme);
        answersAreAsTold(example);
        everyCallIsShown(example);
        everyTestIsNamed(readme);
        end();
    }
}
