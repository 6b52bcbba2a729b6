import java.io.IOException;
import java.lang.reflect.InvocationTargetException;
import java.lang.reflect.Method;
import java.lang.reflect.Modifier;
import java.net.URL;
import java.net.URLClassLoader;
import java.nio.file.Files;
import java.nio.file.Path;
import java.util.ArrayList;
import java.util.List;
import java.util.TreeSet;
import java.util.regex.Matcher;
import java.util.regex.Pattern;
import java.util.stream.Stream;
import javax.tools.JavaCompiler;
import javax.tools.ToolProvider;

/** What README.md says is so: the answers of its example, the methods, the tests and the way to run them. */
public final class ReadmeTest {
    private static final Path README = Path.of("README.md");
    private static final Path TESTS = Path.of("src/test/java");
    // A line of the example: a variable or none, the call, and behind it what it answers or throws.
    private static final Pattern LINE = Pattern.compile("^(?:int (\\w+) = )?(land\\.\\w+\\(.*\\));\\s+// (=|throws) ([\\w.-]+)(?:: .*)?$");

    public static void main(String[] args) throws IOException {
        List<String> lines = Files.readAllLines(README);
        Check check = new Check();
        List<String> example = fenced(lines, "```java");
        check.due("lines of the example that tell no answer", "[RelayedTongues land = new RelayedTongues();]", () -> untold(example));
        String[] answers = answers(example);
        int asked = 0;
        for (String line : example) {
            Matcher matcher = LINE.matcher(line);
            if (matcher.matches()) {
                String got = asked < answers.length ? answers[asked] : "nothing";
                check.due(matcher.group(2), matcher.group(3).equals("=") ? matcher.group(4) : "throws " + matcher.group(4), () -> got);
                asked++;
            }
        }
        check.due("methods that it does not name", "[]", () -> methods(lines, true));
        check.due("methods that it makes up", "[]", () -> methods(lines, false));
        check.due("tests that it names", testFiles(), () -> testsNamed(lines));
        check.due("how to run them", true, () -> fenced(lines, "```").contains("bash .ci/run"));
        check.due("the script", true, () -> Files.isExecutable(Path.of(".ci/run")));
        check.end();
    }

    /** The lines between the first fence like this one and its end. */
    private static List<String> fenced(List<String> lines, String fence) {
        List<String> found = new ArrayList<>();
        boolean isOpen = false;
        boolean isSought = false;
        for (String line : lines) {
            if (line.startsWith("```")) {
                isOpen = !isOpen;
                isSought = isOpen && line.equals(fence);
                if (!isOpen && !found.isEmpty()) {
                    return found;
                }
            } else if (isSought) {
                found.add(line);
            }
        }
        return found;
    }

    private static List<String> untold(List<String> example) {
        List<String> found = new ArrayList<>();
        for (String line : example) {
            if (!line.isEmpty() && !LINE.matcher(line).matches()) {
                found.add(line);
            }
        }
        return found;
    }

    // ---- the example, compiled as it stands ----

    private static String[] answers(List<String> example) throws IOException {
        StringBuilder code = new StringBuilder("public final class Example {\npublic static String[] answers() {\n");
        code.append("java.util.List<String> told = new java.util.ArrayList<>();\n");
        for (String line : example) {
            Matcher matcher = LINE.matcher(line);
            if (!matcher.matches()) {
                code.append(line).append('\n');
            } else if (matcher.group(1) != null) {
                code.append(line).append("\ntold.add(String.valueOf(").append(matcher.group(1)).append("));\n");
            } else {
                code.append("try { told.add(String.valueOf(").append(matcher.group(2)).append("));\n} catch (RuntimeException e) {");
                code.append(" told.add(\"throws \" + e.getClass().getSimpleName()); }\n");
            }
        }
        code.append("return told.toArray(new String[0]);\n}\n}\n");
        Path directory = Files.createTempDirectory("readme");
        try {
            return compiled(directory, code.toString());
        } finally {
            try (Stream<Path> made = Files.list(directory)) {
                made.forEach((file) -> file.toFile().delete());
            }
            Files.delete(directory);
        }
    }

    private static String[] compiled(Path directory, String code) throws IOException {
        Path file = directory.resolve("Example.java");
        Files.writeString(file, code);
        JavaCompiler compiler = ToolProvider.getSystemJavaCompiler();
        String classPath = System.getProperty("java.class.path");
        if (compiler.run(null, null, null, "-cp", classPath, "-d", directory.toString(), file.toString()) != 0) {
            return new String[0];
        }
        try (URLClassLoader loader = new URLClassLoader(new URL[] {directory.toUri().toURL()})) {
            return (String[]) loader.loadClass("Example").getMethod("answers").invoke(null);
        } catch (InvocationTargetException e) {
            return new String[] {e.getCause().toString()};
        } catch (ReflectiveOperationException e) {
            throw new IllegalStateException(e);
        }
    }

    // ---- what it names ----

    /** The methods of the face that the table of calls has not, or what it has besides. */
    private static String methods(List<String> lines, boolean areMissing) {
        TreeSet<String> face = new TreeSet<>();
        for (Method method : RelayedTongues.class.getDeclaredMethods()) {
            if (Modifier.isPublic(method.getModifiers())) {
                face.add(method.getName());
            }
        }
        TreeSet<String> named = new TreeSet<>();
        Pattern quoted = Pattern.compile("`(\\w+)`");
        boolean isInTable = false;
        for (String line : lines) {
            isInTable = line.startsWith("|") && (isInTable || line.equals("| to | there are |"));
            Matcher matcher = quoted.matcher(line);
            while (isInTable && matcher.find()) {
                named.add(matcher.group(1));
            }
        }
        (areMissing ? face : named).removeAll(areMissing ? named : face);
        return (areMissing ? face : named).toString();
    }

    private static String testsNamed(List<String> lines) {
        TreeSet<String> named = new TreeSet<>();
        for (String line : lines) {
            if (line.matches("\\| \\w+Test \\| .*")) {
                named.add(line.split(" ")[1]);
            }
        }
        return named.toString();
    }

    private static String testFiles() throws IOException {
        TreeSet<String> found = new TreeSet<>();
        try (Stream<Path> files = Files.list(TESTS)) {
            files.map((file) -> file.getFileName().toString()).filter((name) -> name.endsWith("Test.java"))
                    .forEach((name) -> found.add(name.substring(0, name.length() - 5)));
        }
        return found.toString();
    }
}
