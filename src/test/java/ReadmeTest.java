import java.io.IOException;
import java.net.URL;
import java.net.URLClassLoader;
import java.nio.file.Files;
import java.nio.file.Path;
import java.util.ArrayList;
import java.util.List;
import java.util.regex.Matcher;
import java.util.regex.Pattern;
import javax.tools.ToolProvider;

/**
 * The examples of README.md, compiled and run: each call that has an answer behind it must give it.
 * What stands behind a colon there is for the reader alone.
 */
public final class ReadmeTest {
    private static final Path README = Path.of("README.md");
    private static final Pattern ANSWERED =
            Pattern.compile("(?:int (\\w+) = )?(.*); *// (throws )?([^:]+)(?:: .*)?");

    /** A call of an example, public because the examples have a class loader of their own. */
    public interface Call {
        Object answer();
    }

    private ReadmeTest() {
    }

    public static void main(String[] args) throws ReflectiveOperationException, IOException {
        List<List<String>> examples = examples();
        Check.yes("there are examples", examples.size() >= 5);
        Path place = Files.createTempDirectory("readme");
        try {
            Check.same("the compiler", compile(sourceOf(examples), place), 0);
            run(place);
        } finally {
            remove(place);
        }
        everyTestIsListed();
        Check.end("ReadmeTest");
    }

    private static List<List<String>> examples() throws IOException {
        List<List<String>> examples = new ArrayList<>();
        boolean inside = false;
        for (String line : Files.readAllLines(README)) {
            if (line.equals("```java")) {
                examples.add(new ArrayList<>());
                inside = true;
            } else if (line.equals("```")) {
                inside = false;
            } else if (inside) {
                examples.get(examples.size() - 1).add(line);
            }
        }
        return examples;
    }

    private static String sourceOf(List<List<String>> examples) {
        StringBuilder text = new StringBuilder();
        text.append("public final class Examples {\npublic static void run() {\n");
        for (List<String> example : examples) {
            text.append("{\n");
            for (String line : example) {
                text.append(checked(line)).append('\n');
            }
            text.append("}\n");
        }
        return text.append("}\n}\n").toString();
    }

    private static String checked(String line) {
        Matcher answered = ANSWERED.matcher(line);
        if (!answered.matches()) {
            return line;
        }
        String name = answered.group(1);
        String call = answered.group(2);
        String due = answered.group(4);
        if (answered.group(3) != null) {
            return "ReadmeTest.fails(\"" + quoted(call) + "\", \"" + due + "\", () -> " + call + ");";
        }
        String check = "ReadmeTest.answers(\"" + quoted(call) + "\", \"" + due + "\", ";
        return name == null ? check + call + ");"
                : "int " + name + " = " + call + ";\n" + check + name + ");";
    }

    private static String quoted(String code) {
        return code.replace("\\", "\\\\").replace("\"", "\\\"");
    }

    public static void answers(String call, String due, Object got) {
        Check.text("README.md: " + call, got.toString(), due);
    }

    public static void fails(String call, String due, Call called) {
        String got = "nothing";
        try {
            called.answer();
        } catch (RuntimeException thrown) {
            got = thrown.getClass().getSimpleName();
        }
        Check.text("README.md: " + call + " throws", got, due);
    }

    private static int compile(String text, Path place) throws IOException {
        Path source = place.resolve("Examples.java");
        Files.writeString(source, text);
        return ToolProvider.getSystemJavaCompiler().run(null, null, null, "-cp",
                System.getProperty("java.class.path"), "-d", place.toString(), source.toString());
    }

    private static void run(Path place) throws ReflectiveOperationException, IOException {
        try (URLClassLoader loader = new URLClassLoader(new URL[] {place.toUri().toURL()})) {
            loader.loadClass("Examples").getMethod("run").invoke(null);
        }
    }

    private static void remove(Path place) throws IOException {
        Files.deleteIfExists(place.resolve("Examples.class"));
        Files.deleteIfExists(place.resolve("Examples.java"));
        Files.deleteIfExists(place);
    }

    private static void everyTestIsListed() throws IOException {
        String readme = Files.readString(README);
        try (java.util.stream.Stream<Path> files = Files.list(Path.of("src/test/java"))) {
            files.map(file -> file.getFileName().toString()).filter(name -> name.endsWith("Test.java"))
                    .map(name -> name.replace(".java", ""))
                    .forEach(name -> Check.yes("README.md lists " + name,
                            readme.contains("| " + name + " |")));
        }
    }
}
