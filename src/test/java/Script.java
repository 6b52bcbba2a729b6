import java.lang.reflect.InvocationTargetException;
import java.lang.reflect.Method;
import java.util.ArrayList;
import java.util.HashSet;
import java.util.List;
import java.util.Set;
import java.util.regex.Matcher;
import java.util.regex.Pattern;

/**
 * A case of src/test/runs: calls on a new object, each with the answer that is due. README.md tells how they are written.
 * A twin gets all calls but the refused ones, and has to answer the same to the end.
 */
final class Script {
    private static final Pattern CALL = Pattern.compile("^(?:(\\d+) x )?(\\w+)\\((.*)\\)(?: ([=!]) ?(.*))?$");

    private static final Pattern RANGE = Pattern.compile("(\\d+)\\.\\.(\\d+)");

    final String file;
    final List<String> quotes = new ArrayList<>();
    final List<String> lines = new ArrayList<>();
    private final RelayedTongues land = new RelayedTongues();
    private final RelayedTongues twin = new RelayedTongues();
    // Which argument was given at which place of which method.
    private final Set<String> given = new HashSet<>();
    private int refused = 0;
    private int answered = 0;
    private int wrong = 0;
    // What has to be refused in this case, as a method and an exception.
    private final List<String[]> dueRefusals = new ArrayList<>();
    // The land as it was behind the last refused call, or null if it changed since.
    private String known = null;

    Script(String file) {
        this.file = file;
    }

    int answered() {
        return answered;
    }

    int refused() {
        return refused;
    }

    boolean hasGiven(String method, int place, String argument) {
        return given.contains(method + place + " " + argument);
    }

    /** If it is a sentence "Throws" of a promise, told as its number and its method. */
    void addDueRefusal(String part, String sentence) {
        if (sentence.startsWith("Throws ")) {
            dueRefusals.add(new String[] {part.substring(part.indexOf(' ') + 1), sentence.split(" ")[1]});
        }
    }

    /** Makes all calls, and tells how many answers were not as due. */
    int run() {
        for (String[] due : dueRefusals) {
            if (lines.stream().noneMatch((line) -> line.matches("(\\d+ x )?" + due[0] + "\\(.*! " + due[1]))) {
                complain("no call of " + due[0], "by " + due[1]);
            }
        }
        for (String line : lines) {
            Matcher parts = CALL.matcher(line);
            if (!parts.matches()) {
                complain(line, "is no call");
                continue;
            }
            int times = parts.group(1) == null ? 1 : Integer.parseInt(parts.group(1));
            for (int i = 0; i < times; i++) {
                for (List<String> arguments : expanded(parts.group(3))) {
                    make(line, parts.group(2), arguments, parts.group(4), parts.group(5));
                }
            }
        }
        if (!land.isSound()) {
            complain("in the end", "not sound");
        }
        if (!Snapshot.of(land).equals(Snapshot.of(twin)) || !Snapshot.aftermath(land).equals(Snapshot.aftermath(twin))) {
            complain("in the end", "the land is not as without the refused calls");
        }
        return wrong;
    }

    private void make(String line, String name, List<String> arguments, String sign, String due) {
        boolean isRefusal = "!".equals(sign);
        if (isRefusal && known == null) {
            known = Snapshot.of(land);
        }
        answered++;
        for (int place = 0; place < arguments.size(); place++) {
            given.add(name + place + " " + arguments.get(place));
        }
        String got = answer(land, name, arguments);
        String told = name + arguments + " of: " + line;
        if (isRefusal) {
            refused++;
            if (!got.equals("! " + due)) {
                complain(told, got);
            }
            String now = Snapshot.of(land);
            if (!now.equals(known)) {
                complain(told, "changed the land");
            }
            known = now;
            return;
        }
        known = null;
        boolean isDue = sign == null ? !got.startsWith("!") : got.equals(due);
        if (!isDue) {
            complain(told, got);
        }
        String other = answer(twin, name, arguments);
        if (!other.equals(got)) {
            complain(told, got + ", but without the refused calls " + other);
        }
    }

    private void complain(String call, String got) {
        wrong++;
        if (wrong <= 5) {
            System.out.println(file + ", " + quotes.get(0) + ": " + call + " answered " + got);
        }
    }

    /** {1,2} stands for a call with each of them, {1..9} for one with each from 1 to 9. */
    private static List<List<String>> expanded(String arguments) {
        List<List<String>> rows = new ArrayList<>();
        rows.add(new ArrayList<>());
        if (arguments.isBlank()) {
            return rows;
        }
        for (String part : arguments.split(",\\s*(?![^{]*\\})")) {
            String[] choices = choices(part);
            List<List<String>> wider = new ArrayList<>();
            for (List<String> row : rows) {
                for (String choice : choices) {
                    List<String> longer = new ArrayList<>(row);
                    longer.add(choice.trim());
                    wider.add(longer);
                }
            }
            rows = wider;
        }
        return rows;
    }

    private static String[] choices(String part) {
        if (!part.startsWith("{")) {
            return new String[] {part};
        }
        String inside = part.substring(1, part.length() - 1);
        Matcher range = RANGE.matcher(inside);
        if (!range.matches()) {
            return inside.split(",\\s*");
        }
        int first = Integer.parseInt(range.group(1));
        String[] all = new String[Integer.parseInt(range.group(2)) - first + 1];
        for (int i = 0; i < all.length; i++) {
            all[i] = String.valueOf(first + i);
        }
        return all;
    }

    private static String answer(RelayedTongues asked, String name, List<String> arguments) {
        if (name.equals("line") && Integer.parseInt(arguments.get(0)) < texts(asked)) {
            return line(asked, Integer.parseInt(arguments.get(0)), Integer.parseInt(arguments.get(1)));
        }
        if (name.equals("draws")) {
            return draws(Long.parseLong(arguments.get(0)), Integer.parseInt(arguments.get(1)));
        }
        for (Method method : RelayedTongues.class.getMethods()) {
            if (method.getName().equals(name) && method.getDeclaringClass() == RelayedTongues.class) {
                return answer(asked, method, arguments);
            }
        }
        return "! no such method";
    }

    private static String answer(RelayedTongues asked, Method method, List<String> arguments) {
        Object[] values = new Object[arguments.size()];
        for (int i = 0; i < values.length; i++) {
            values[i] = value(arguments.get(i));
        }
        try {
            return String.valueOf(method.invoke(asked, values));
        } catch (InvocationTargetException e) {
            RuntimeException thrown = (RuntimeException) e.getCause();
            return "! " + thrown.getClass().getSimpleName() + (Check.isThrownByProgram(thrown) ? "" : " of the machine");
        } catch (IllegalAccessException | IllegalArgumentException e) {
            return "! no such call";
        }
    }

    private static Object value(String told) {
        switch (told) {
            case "min": return Integer.MIN_VALUE;
            case "max": return Integer.MAX_VALUE;
            case "true": return true;
            case "false": return false;
            default: return told.startsWith("'") || told.startsWith("char") ? (Object) sign(told) : (Object) Integer.valueOf(told);
        }
    }

    /** 'p', or char112. */
    private static char sign(String told) {
        return told.startsWith("'") ? told.charAt(1) : (char) Integer.parseInt(told.substring(4));
    }

    private static int texts(RelayedTongues asked) {
        for (int i = 0; i < 30; i++) {
            try {
                asked.sentences(i);
            } catch (IndexOutOfBoundsException e) {
                return i;
            }
        }
        return 30;
    }

    /** The signs of a sentence, each with its letter. */
    private static String line(RelayedTongues asked, int text, int sentence) {
        StringBuilder told = new StringBuilder();
        for (int place = 0; place < asked.signs(text, sentence); place++) {
            told.append(asked.signAt(text, sentence, place)).append(asked.letterAt(text, sentence, place)).append(' ');
        }
        return told.toString().trim();
    }

    /** The first draws of a seed, modulo 100, so that a case can tell on what it relies. */
    private static String draws(long seed, int many) {
        StringBuilder told = new StringBuilder();
        long z = seed;
        for (int i = 0; i < many; i++) {
            z = (z * 1103515245L + 12345L) % 2147483648L;
            told.append(z / 65536L % 100L).append(' ');
        }
        return told.toString().trim();
    }
}
