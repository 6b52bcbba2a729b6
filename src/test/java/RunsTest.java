import java.io.IOException;
import java.lang.reflect.Method;
import java.nio.file.Files;
import java.nio.file.Path;
import java.util.ArrayList;
import java.util.LinkedHashMap;
import java.util.List;
import java.util.Map;
import java.util.TreeMap;
import java.util.stream.Stream;

/**
 * The runs of src/test/runs. Each case quotes what of the document it tests; and each sentence of the section "Terms",
 * each "Throws", each "Returns" and each parameter with a bound has to be quoted by a case. A case that quotes a
 * "Throws" has to have a call which is refused so; and each parameter has to be given its least and its greatest value.
 */
public final class RunsTest {
    private static final Path RUNS = Path.of("src/test/runs");
    private static final Path DOCUMENT = Path.of("../shared/DOC.md");

    // For each part of the document its sentences, each with how often it is quoted.
    private final Map<String, Map<String, Integer>> parts = new LinkedHashMap<>();
    private final Map<String, List<String>> beginnings = new TreeMap<>();
    private final List<Script> scripts = new ArrayList<>();
    private int wrong = 0;

    public static void main(String[] args) throws IOException {
        RunsTest test = new RunsTest();
        test.readDocument();
        test.readRuns();
        test.runAll();
        test.lookForUntested();
        test.lookForExtremes();
        System.exit(test.wrong == 0 ? 0 : 1);
    }

    private void runAll() {
        int answered = 0;
        int refused = 0;
        for (Script script : scripts) {
            wrong += script.run() > 0 ? 1 : 0;
            answered += script.answered();
            refused += script.refused();
        }
        System.out.println(scripts.size() + " cases, " + answered + " calls, " + refused + " of them refused; " + wrong + " cases not as due");
        if (scripts.isEmpty()) {
            wrong++;
        }
    }

    private void complain(String what) {
        wrong++;
        System.out.println(what);
    }

    private void lookForUntested() {
        int sentences = 0;
        for (Map.Entry<String, Map<String, Integer>> part : parts.entrySet()) {
            for (Map.Entry<String, Integer> sentence : part.getValue().entrySet()) {
                sentences++;
                if (sentence.getValue() == 0) {
                    complain("no case quotes " + part.getKey() + ": " + sentence.getKey());
                }
            }
        }
        System.out.println(sentences + " sentences of the document are to be tested");
    }

    /** The least and the greatest value has to be given wherever one is taken. */
    private void lookForExtremes() {
        for (Method method : RelayedTongues.class.getMethods()) {
            if (method.getDeclaringClass() != RelayedTongues.class) {
                continue;
            }
            Class<?>[] types = method.getParameterTypes();
            for (int place = 0; place < types.length; place++) {
                for (String extreme : extremes(types[place])) {
                    lookFor(method.getName(), place, extreme);
                }
            }
        }
    }

    private static List<String> extremes(Class<?> type) {
        if (type == boolean.class) {
            return List.of("false", "true");
        }
        return type == char.class ? List.of("char0", "char65535") : List.of("min", "max");
    }

    private void lookFor(String method, int place, String argument) {
        for (Script script : scripts) {
            if (script.hasGiven(method, place, argument)) {
                return;
            }
        }
        complain("no case gives " + method + " at place " + place + " " + argument);
    }

    // ---- the document ----

    private void readDocument() throws IOException {
        String section = "";
        String title = "";
        for (String line : Files.readAllLines(DOCUMENT)) {
            if (line.startsWith("## ")) {
                section = line.substring(3);
            } else if (section.equals("Terms") && !line.isEmpty()) {
                // A paragraph without a title goes with the one before it.
                boolean hasTitle = line.matches("(\\w+ ?){1,4}\\. .*");
                title = hasTitle ? line.substring(0, line.indexOf('.')) : title;
                addSentences(title, hasTitle ? line.substring(line.indexOf('.') + 2) : line);
            } else if (section.startsWith("Promise ")) {
                addPromise(section.substring(8).replace(":", ""), plain(line));
            }
        }
    }

    private void addSentences(String part, String text) {
        for (String sentence : plain(text).split("(?<=\\.) (?=[A-Z])")) {
            add(part, sentence);
        }
    }

    private void addPromise(String part, String line) {
        boolean isBound = line.startsWith("- ") && line.matches(".*(\\d|not earlier).*");
        if (line.startsWith("Throws ") || line.startsWith("Returns ") || isBound) {
            add(part, line);
        } else if (line.matches("[\\w ]+\\([^)]*\\)[^:]*: .*")) {
            add(part, line.replaceFirst("^[^:]*: ", ""));
        }
    }

    private void add(String part, String sentence) {
        parts.computeIfAbsent(part, (key) -> new LinkedHashMap<>()).put(sentence, 0);
    }

    private static String plain(String line) {
        return line.replace("`", "").trim();
    }

    // ---- the runs ----

    private void readRuns() throws IOException {
        List<Path> files = new ArrayList<>();
        try (Stream<Path> found = Files.list(RUNS)) {
            found.filter((path) -> path.toString().endsWith(".txt")).sorted().forEach(files::add);
        }
        for (Path file : files) {
            readFile(file);
        }
    }

    private void readFile(Path file) throws IOException {
        String name = file.getFileName().toString();
        List<String> target = new ArrayList<>();
        Script script = null;
        for (String raw : Files.readAllLines(file)) {
            String line = raw.replaceAll("(^|\\s)#.*", "").trim();
            if (line.isEmpty()) {
                continue;
            }
            if (line.startsWith(":: ")) {
                target = new ArrayList<>();
                beginnings.put(line.substring(3), target);
            } else if (line.startsWith("== ")) {
                if (script == null || target != script.lines || !script.lines.isEmpty()) {
                    script = new Script(name);
                    target = script.lines;
                    scripts.add(script);
                }
                script.quotes.add(line.substring(3));
                quote(script, line.substring(3));
            } else if (line.startsWith("use ")) {
                target.addAll(beginnings.getOrDefault(line.substring(4), List.of("nothing " + line)));
            } else {
                target.add(line);
            }
        }
    }

    private void quote(Script script, String told) {
        int end = told.indexOf(": ");
        String part = end < 0 ? told : told.substring(0, end);
        String words = end < 0 ? "" : told.substring(end + 2);
        int found = 0;
        for (Map.Entry<String, Integer> sentence : parts.getOrDefault(part, Map.of()).entrySet()) {
            if (sentence.getKey().contains(words)) {
                found++;
                sentence.setValue(sentence.getValue() + 1);
                script.addDueRefusal(part, sentence.getKey());
            }
        }
        if (found == 0) {
            complain(script.file + ": the document does not say " + told);
        }
    }
}
