import java.io.IOException;
import java.nio.file.Files;
import java.nio.file.Path;
import java.util.ArrayList;
import java.util.List;
import java.util.regex.Matcher;
import java.util.regex.Pattern;

/** What of LANGUAGE.md can be seen in the lines of the source. */
public final class SourceTest {
    private static final Path SOURCE = Path.of("src/main/java/RelayedTongues.java");
    private static final int METHOD_LINES = 60;
    private static final int PARAMETERS = 7;
    private static final int FIELDS = 20;
    private static final int CLASSES = 12;

    public static void main(String[] args) throws IOException {
        List<String> lines = Files.readAllLines(SOURCE);
        List<String> code = new ArrayList<>();
        for (String line : lines) {
            // Texts become "", and comments go.
            code.add(line.replaceAll("\"[^\"]*\"", "\"\"").replaceAll("//.*|^\\s*/?\\*.*", ""));
        }
        Check check = new Check();
        check.due("signs beyond 127", "[]", () -> matching(lines, "[^\\x00-\\x7f]"));
        check.due("imports", "[import java.util.ArrayList;, import java.util.NoSuchElementException;]", () -> matching(code, "^(import|package)\\b"));
        check.due("lambdas and method references", "[]", () -> matching(code, "->|::"));
        check.due("try, synchronized, assert, switch", "[]", () -> matching(code, "\\b(try|catch|finally|synchronized|assert|switch|while)\\b"));
        check.due("texts joined by +", "[]", () -> matching(code, "\"\"\\s*\\+|\\+\\s*\"\""));
        check.due("static fields that are not final", "[]", () -> matching(code, "\\bstatic (?!final\\b|class\\b)[\\w<>\\[\\]]+ \\w+( =|;)"));
        check.due("static blocks", "[]", () -> matching(code, "\\bstatic \\{"));
        check.due("clocks, chance, files, threads", "[]", () -> matching(code, "\\b(System|Random|Thread|Runtime|Files?|Date|Instant)\\b"));
        check.due("exceptions that are not listed", "[]", () -> matching(code, "throw new (?!(IllegalState|IllegalArgument|IndexOutOfBounds|Arithmetic|UnsupportedOperation|NoSuchElement)Exception\\(\"\"\\);)"));
        check.due("equals, hashCode, toString", "[]", () -> matching(code, "\\b(equals|hashCode|toString)\\b"));
        check.due("classes", true, () -> matching(code, "\\b(class|enum|record|interface) \\w+").size() <= CLASSES);
        check.due("methods too long", "[]", () -> longMethods(code));
        check.due("methods with too many parameters", "[]", () -> wideMethods(code));
        check.due("classes with too many fields", "[]", () -> fullClasses(code));
        check.end();
    }

    private static List<String> matching(List<String> lines, String pattern) {
        Pattern sought = Pattern.compile(pattern);
        List<String> found = new ArrayList<>();
        for (String line : lines) {
            if (sought.matcher(line).find()) {
                found.add(line.trim());
            }
        }
        return found;
    }

    private static boolean isMethodHead(String line) {
        return line.matches("^(    |        )\\S.*\\) ?(throws .*)?\\{$") && !line.matches("^\\s*(if|for|else|\\}).*");
    }

    private static List<String> longMethods(List<String> code) {
        List<String> found = new ArrayList<>();
        for (int i = 0; i < code.size(); i++) {
            String head = code.get(i);
            if (!isMethodHead(head)) {
                continue;
            }
            String end = head.replaceAll("\\S.*", "}");
            int last = i;
            while (last < code.size() && !code.get(last).equals(end)) {
                last++;
            }
            if (last - i + 1 > METHOD_LINES) {
                found.add(head.trim());
            }
        }
        return found;
    }

    private static List<String> wideMethods(List<String> code) {
        List<String> found = new ArrayList<>();
        Pattern inside = Pattern.compile("\\(([^)]*)\\)");
        for (String line : code) {
            Matcher matcher = inside.matcher(line);
            if (isMethodHead(line) && matcher.find() && matcher.group(1).split(",").length > PARAMETERS) {
                found.add(line.trim());
            }
        }
        return found;
    }

    private static List<String> fullClasses(List<String> code) {
        List<String> found = new ArrayList<>();
        String inClass = "";
        String fieldIndent = "";
        int fields = 0;
        for (String line : code) {
            if (line.matches(".*\\bclass \\w+.*")) {
                inClass = line.trim();
                fieldIndent = line.replaceAll("\\S.*", "") + "    ";
                fields = 0;
            }
            boolean isField = line.matches("^" + fieldIndent + "(private |final )*[\\w<>\\[\\]]+ \\w+( = [^;]*)?;$");
            fields += isField ? 1 : 0;
            if (isField && fields == FIELDS + 1) {
                found.add(inClass);
            }
        }
        return found;
    }
}
