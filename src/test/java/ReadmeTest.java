import java.io.IOException;
import java.lang.reflect.Method;
import java.net.URL;
import java.net.URLClassLoader;
import java.nio.file.Files;
import java.nio.file.Path;
import java.util.ArrayList;
import java.util.List;
import java.util.regex.Matcher;
import java.util.regex.Pattern;
import java.util.stream.Stream;
import javax.tools.ToolProvider;

/** README.md's example answers as the page says, and the page names every call and every test. */
public final class ReadmeTest {
    private static final Pattern EXAMPLE = Pattern.compile("```java\n(.*?)```", Pattern.DOTALL);
    private static final Pattern TOLD = Pattern.compile("(x\\..*\\)); +// (-?\\d+): .*");

    private final List<String> calls = new ArrayList<>();
    private final List<Integer> wanted = new ArrayList<>();

    public static void main(String[] args) throws IOException, ReflectiveOperationException {
        Check.part("README");
        String page = Files.readString(Path.of("README.md"));
        names(page);
        Matcher example = EXAMPLE.matcher(page);
        Check.holds("an example", example.find());
        new ReadmeTest().check(example.group(1));
        Check.end();
    }

    private static void names(String page) throws IOException {
        for (Method method : PulledPanels.class.getMethods()) {
            if (method.getDeclaringClass() == PulledPanels.class) {
                Check.holds("names " + method.getName(), page.contains("`" + method.getName() + "("));
            }
        }
        try (Stream<Path> files = Files.list(Path.of("src/test/java"))) {
            for (Path file : files.toList()) {
                String name = file.getFileName().toString().replace(".java", "");
                Check.holds("names " + name, !name.endsWith("Test") || page.contains("`" + name + "`"));
            }
        }
    }

    private void check(String example) throws IOException, ReflectiveOperationException {
        StringBuilder body = new StringBuilder();
        for (String line : example.split("\n")) {
            body.append(statement(line)).append('\n');
        }
        Check.holds("answers in the example", calls.size() > 10);
        int[] answers = answers(body.toString());
        for (int i = 0; i < answers.length; i++) {
            Check.due(calls.get(i), answers[i], wanted.get(i));
        }
    }

    /** A line whose answer is told keeps the answer; another one stays as it is. */
    private String statement(String line) {
        Matcher told = TOLD.matcher(line);
        if (!told.matches()) {
            Check.holds("an answer that can be read: " + line, !line.contains("//"));
            return line;
        }
        calls.add(told.group(1));
        wanted.add(Integer.valueOf(told.group(2)));
        return "answers[" + (calls.size() - 1) + "] = " + told.group(1) + ";";
    }

    private int[] answers(String body) throws IOException, ReflectiveOperationException {
        Path folder = Files.createTempDirectory("readme");
        Path source = folder.resolve("Example.java");
        Files.writeString(source, "public final class Example {\n public static int[] run() {\n int[] answers = new int["
            + calls.size() + "];\n" + body + "return answers;\n }\n}\n");
        int ended = ToolProvider.getSystemJavaCompiler().run(null, null, null, "-cp",
            System.getProperty("java.class.path"), "-d", folder.toString(), source.toString());
        Check.due("the compiler", ended, 0);
        if (ended != 0) {
            return new int[0];
        }
        try (URLClassLoader loader = new URLClassLoader(new URL[] {folder.toUri().toURL()})) {
            return (int[]) loader.loadClass("Example").getMethod("run").invoke(null);
        } finally {
            Files.deleteIfExists(folder.resolve("Example.class"));
            Files.deleteIfExists(source);
            Files.deleteIfExists(folder);
        }
    }
}
