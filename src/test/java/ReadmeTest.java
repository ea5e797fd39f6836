import java.io.IOException;
import java.lang.reflect.InvocationTargetException;
import java.net.URL;
import java.net.URLClassLoader;
import java.nio.file.Files;
import java.nio.file.Path;
import java.util.ArrayList;
import java.util.List;
import java.util.regex.Matcher;
import java.util.regex.Pattern;
import javax.tools.ToolProvider;

/** The example in README.md: each call has the answer that stands behind it; it is run from the root of the project. */
public final class ReadmeTest extends Suite {
    private static final Pattern ANSWERED = Pattern.compile("(?:int (\\w+) = )?(hall\\..*); // (?:throws )?([\\w-]+).*");

    /** The example is in a package of its own by its loader, so it brings along what it compares with. */
    private static final String BEFORE = """
        public final class Example {
            private static void due(String want, java.util.function.Supplier<Object> call) {
                String got;
                try {
                    got = "" + call.get();
                } catch (RuntimeException thrown) {
                    got = thrown.getClass().getSimpleName();
                }
                if (!want.equals(got)) {
                    throw new AssertionError("due is " + want + ", the answer is " + got);
                }
            }

            public static void main(String[] args) {
        """;

    public static void main(String[] args) {
        run(ReadmeTest.class);
    }

    private static String readme() throws IOException {
        return Files.readString(Path.of("README.md"));
    }

    /** The lines of the example, with a comparison in place of each answer. */
    private static List<String> statements() throws IOException {
        String text = readme();
        int begin = text.indexOf("```java\n") + "```java\n".length();
        List<String> lines = new ArrayList<>();
        for (String line : text.substring(begin, text.indexOf("```", begin)).split("\n")) {
            Matcher answered = ANSWERED.matcher(line);
            if (!answered.matches()) {
                lines.add(line);
                continue;
            }
            String call = answered.group(2);
            if (answered.group(1) != null) {
                lines.add("int " + answered.group(1) + " = " + call + ";");
                call = answered.group(1);
            }
            lines.add("due(\"" + answered.group(3) + "\", () -> " + call + ");");
        }
        return lines;
    }

    static void promise00_theExampleHasTheseAnswers() throws IOException, ReflectiveOperationException {
        List<String> statements = statements();
        due(true, statements.stream().filter(line -> line.startsWith("due(")).count() >= 25);
        Path folder = Files.createTempDirectory("readme");
        Path source = folder.resolve("Example.java");
        Files.writeString(source, BEFORE + String.join("\n", statements) + "\n}\n}\n");
        String classes = System.getProperty("java.class.path");
        due(0, ToolProvider.getSystemJavaCompiler().run(null, null, null, "-cp", classes, "-d", folder.toString(), source.toString()));
        try (URLClassLoader loader = new URLClassLoader(new URL[] {folder.toUri().toURL()})) {
            loader.loadClass("Example").getMethod("main", String[].class).invoke(null, (Object) new String[0]);
        } catch (InvocationTargetException thrown) {
            throw new AssertionError(thrown.getCause());
        } finally {
            Files.delete(folder.resolve("Example.class"));
            Files.delete(source);
            Files.delete(folder);
        }
    }

    /** What the calls are for is told of each one. */
    static void promise00_allCallsAreNamed() throws IOException {
        String text = readme();
        String calls = text.substring(text.indexOf("### What the calls are for"), text.indexOf("### An example"));
        for (java.lang.reflect.Method method : ReconcilerHall.class.getDeclaredMethods()) {
            if (java.lang.reflect.Modifier.isPublic(method.getModifiers())) {
                due(method.getName() + " true", method.getName() + " " + calls.contains("`" + method.getName() + "`"));
            }
        }
    }
}
