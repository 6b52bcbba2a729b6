import java.io.IOException;
import java.lang.reflect.Constructor;
import java.lang.reflect.Field;
import java.lang.reflect.Method;
import java.lang.reflect.Modifier;
import java.nio.file.Files;
import java.nio.file.Path;
import java.util.ArrayList;
import java.util.Arrays;
import java.util.List;
import java.util.TreeSet;
import java.util.regex.Matcher;
import java.util.regex.Pattern;

/** The face is that of the document, and nothing else can be seen (LANGUAGE.md, rule 1). */
public final class FaceTest {
    private static final Pattern PROMISED = Pattern.compile("^    public (\\w+) (\\w+)\\(([^)]*)\\)(?: throws ([^;]*))?;$");

    public static void main(String[] args) throws IOException {
        Check check = new Check();
        Class<?> face = RelayedTongues.class;
        check.due("public and final", true, () -> Modifier.isPublic(face.getModifiers()) && Modifier.isFinal(face.getModifiers()));
        check.due("methods", promised(), () -> publicMethods(face));
        check.due("constructors", "[public RelayedTongues()]", () -> constructors(face));
        check.due("members that show", "[]", () -> showing(face));
        check.due("private methods with public names", "[]", () -> namesakes(face));
        check.due("classes", true, () -> face.getDeclaredClasses().length <= 12);
        check.end();
    }

    private static String promised() throws IOException {
        TreeSet<String> found = new TreeSet<>();
        for (String line : Files.readAllLines(Path.of("../shared/DOC.md"))) {
            Matcher matcher = PROMISED.matcher(line);
            if (matcher.matches()) {
                List<String> types = new ArrayList<>();
                for (String parameter : matcher.group(3).split(", ")) {
                    types.add(parameter.split(" ")[0]);
                }
                String thrown = matcher.group(4) == null ? "" : matcher.group(4);
                found.add(matcher.group(1) + " " + matcher.group(2) + String.join(",", types) + " " + thrown);
            }
        }
        return found.size() + " " + found;
    }

    private static String publicMethods(Class<?> face) {
        TreeSet<String> found = new TreeSet<>();
        for (Method method : face.getDeclaredMethods()) {
            if (Modifier.isPublic(method.getModifiers())) {
                found.add(method.getReturnType() + " " + method.getName() + simpleNames(method.getParameterTypes(), ",")
                        + " " + simpleNames(method.getExceptionTypes(), ", "));
            }
        }
        return found.size() + " " + found;
    }

    private static String simpleNames(Class<?>[] types, String between) {
        List<String> names = new ArrayList<>();
        for (Class<?> type : types) {
            names.add(type.getSimpleName());
        }
        return String.join(between, names);
    }

    private static String constructors(Class<?> face) {
        List<String> found = new ArrayList<>();
        for (Constructor<?> constructor : face.getDeclaredConstructors()) {
            found.add(constructor.toString());
        }
        return found.toString();
    }

    private static String showing(Class<?> face) {
        List<String> found = new ArrayList<>();
        for (Field field : face.getDeclaredFields()) {
            if (!Modifier.isPrivate(field.getModifiers())) {
                found.add(field.getName());
            }
        }
        for (Method method : face.getDeclaredMethods()) {
            if (!Modifier.isPrivate(method.getModifiers()) && !Modifier.isPublic(method.getModifiers())) {
                found.add(method.getName());
            }
        }
        return found.toString();
    }

    private static String namesakes(Class<?> face) {
        TreeSet<String> open = new TreeSet<>();
        TreeSet<String> hidden = new TreeSet<>();
        List<Class<?>> all = new ArrayList<>(Arrays.asList(face.getDeclaredClasses()));
        all.add(face);
        for (Class<?> one : all) {
            for (Method method : one.getDeclaredMethods()) {
                boolean isOpen = one == face && Modifier.isPublic(method.getModifiers());
                (isOpen ? open : hidden).add(method.getName());
            }
        }
        hidden.retainAll(open);
        return hidden.toString();
    }
}
