import java.lang.reflect.InvocationTargetException;
import java.lang.reflect.Method;
import java.util.ArrayList;
import java.util.Arrays;
import java.util.List;
import java.util.Random;
import java.util.TreeMap;

/**
 * Runs of 512 calls by chance, the same in each session, answered by the class and by Oracle; and longer ones in
 * which no exception may come that the face does not tell.
 */
public final class RandomTest {
    private static final int RUNS = 400;
    private static final int CALLS = 512;
    private static final int[] STRANGE = {-1, -2, 4, 6, 8, 30, 40, 512, 1000, 2001, 100000, Integer.MIN_VALUE, Integer.MAX_VALUE};

    // Each call: how often, its name, and what its arguments are; see number().
    private static final String[] CALL_KINDS = {
        "10 word T E", "8 sense T W Z", "3 senseOf T W I", "2 words T", "2 nought T ?", "3 city", "6 road C C V U",
        "3 original T Y C", "4 sentence O F", "10 say X W I", "4 count O N", "1 school A", "8 gloss S T E W V",
        "8 teach S T W I V", "3 glossed S T E V", "3 translator S H", "8 skill P T T K", "12 translate X P T Y D",
        "10 relay X P P T T Y D", "6 copy X Y R D", "6 bind X X B Y", "12 revise X X P Y D", "2 sentences X", "2 signs X L",
        "6 signAt X L G", "6 letterAt X L G", "3 comesFrom X L", "4 parentOf X L", "12 read X L G P V", "8 isRight X L G",
        "6 losses X", "10 doubt X L G", "8 carry X C Y", "2 burn X Y", "6 lies X V", "8 isKnown C O L V", "6 cities O L V",
        "10 signed X", "8 likeness X P", "6 hand X", "8 likely O L G", "8 cost O L G", "10 stands T W T", "8 times T W T",
        "16 checksum X", "3 rightShare", "6 meanDoubt X", "2 isSound"};
    private static final String[] BUILDING = {
        "word T E", "word T E", "sense T W Z", "sense T W Z", "city", "road C C V U", "road C C V U", "road C C V U", "road C C V U", "school A", "translator S H", "skill P T T K",
        "skill P T T K", "gloss S T E W V", "teach S T W I V"};
    private static final String[] TELLING = {
        "sentence O F", "sentence O F", "say O W I", "say O W I", "say O W I", "say O W I", "say O W I", "count O N", "nought T ?"};

    private final Random chance;
    private final int strangeness;
    private final boolean isWordy;
    private final RelayedTongues program = new RelayedTongues();
    private final List<Integer> originals = new ArrayList<>();
    private final List<Integer> tonguesOfTexts = new ArrayList<>();
    private int cityCount = 0;
    private int schoolCount = 0;
    private int translatorCount = 0;
    private int now = 100;
    // What the call that is being made has told so far, on which its other arguments hang.
    private int tongue = 0;
    private int text = 0;
    private int line = 0;
    private int word = 0;
    private final TreeMap<String, Integer> answers = new TreeMap<>();

    private RandomTest(long seed, int strangeness) {
        chance = new Random(seed);
        this.strangeness = strangeness;
        isWordy = chance.nextInt(6) == 0;
    }

    public static void main(String[] args) {
        TreeMap<String, Integer> answered = new TreeMap<>();
        int wrong = 0;
        for (int run = 0; run < RUNS && wrong < 5; run++) {
            RandomTest one = new RandomTest(run, run % 7 == 0 ? 5 : 40);
            wrong += one.compare(run);
            one.answers.forEach((key, times) -> answered.merge(key, times, Integer::sum));
        }
        for (int run = 0; run < 40; run++) {
            wrong += new RandomTest(-1 - run, 6).outlast(run);
        }
        int unseen = missing(answered);
        System.out.println(RUNS + " runs, " + wrong + " answers not as due, " + unseen + " kinds of answers never met");
        if (args.length > 0) {
            System.out.println(answered);
        }
        if (wrong + unseen != 0) {
            System.exit(1);
        }
    }

    /** A comparison is worth something only if each method answered, and threw all that it can throw. */
    private static int missing(TreeMap<String, Integer> answered) {
        int unseen = 0;
        for (char letter : "=.ghbcloxvnm".toCharArray()) {
            if (!answered.containsKey("letter " + letter)) {
                unseen++;
                System.out.println("never met: letter " + letter);
            }
        }
        for (String kind : CALL_KINDS) {
            Method method = method(RelayedTongues.class, kind.split(" ")[1]);
            List<String> due = new ArrayList<>(List.of(method.getName()));
            for (Class<?> thrown : method.getExceptionTypes()) {
                due.add(method.getName() + " " + thrown.getSimpleName());
            }
            for (String one : due) {
                if (!answered.containsKey(one)) {
                    unseen++;
                    System.out.println("never met: " + one);
                }
            }
        }
        return unseen;
    }

    private int compare(int run) {
        Oracle oracle = new Oracle();
        StringBuilder told = new StringBuilder();
        for (int call = 0; call < CALLS; call++) {
            String kind = chosen(call);
            Object[] arguments = arguments(kind);
            String name = kind.split(" ")[0];
            String got = answer(program, name, arguments);
            String want = answer(oracle, name, arguments);
            told.append(name).append(Arrays.toString(arguments)).append(" = ").append(want).append('\n');
            if (!got.equals(want)) {
                System.out.println("run " + run + ", " + told + "but answered " + got);
                return 1;
            }
            remember(name, arguments, got);
        }
        return compareTexts(run, oracle, told);
    }

    /** All that stands in the texts in the end; what comes behind the 512th call is free, but the same here. */
    private int compareTexts(int run, Oracle oracle, StringBuilder told) {
        StringBuilder got = new StringBuilder();
        StringBuilder want = new StringBuilder();
        for (int t = 0; t < tonguesOfTexts.size(); t++) {
            for (int s = 0; s < oracle.sentences(t); s++) {
                got.append(program.comesFrom(t, s)).append(' ');
                want.append(oracle.comesFrom(t, s)).append(' ');
                for (int p = 0; p < oracle.signs(t, s); p++) {
                    got.append(program.signAt(t, s, p)).append(program.letterAt(t, s, p)).append(program.doubt(t, s, p)).append(program.isRight(t, s, p));
                    want.append(oracle.signAt(t, s, p)).append(oracle.letterAt(t, s, p)).append(oracle.doubt(t, s, p)).append(oracle.isRight(t, s, p));
                    answers.merge("letter " + oracle.letterAt(t, s, p), 1, Integer::sum);
                }
            }
        }
        if (got.compareTo(want) != 0) {
            System.out.println("run " + run + ", " + told + "texts " + got + ", due are " + want);
            return 1;
        }
        return 0;
    }

    /** Behind its 512th call an object answers freely, but the machine may not throw then either. */
    private int outlast(int run) {
        for (int call = 0; call < 20 * CALLS; call++) {
            String kind = chosen(call);
            Object[] arguments = arguments(kind);
            String got = answer(program, kind.split(" ")[0], arguments);
            if (got.startsWith("machine")) {
                System.out.println("long run " + run + ": " + kind + Arrays.toString(arguments) + " " + got);
                return 1;
            }
            remember(kind.split(" ")[0], arguments, got);
        }
        return 0;
    }

    private void remember(String name, Object[] arguments, String got) {
        boolean isThrow = got.startsWith("throws ");
        answers.merge(isThrow ? name + got.substring(6) : name, 1, Integer::sum);
        if (isThrow) {
            return;
        }
        if (name.equals("original")) {
            originals.add(Integer.parseInt(got));
        }
        if (List.of("original", "translate", "relay", "copy", "bind", "revise").contains(name)) {
            int told = name.equals("original") ? 0 : name.equals("translate") ? 2 : name.equals("relay") ? 4 : -1;
            tonguesOfTexts.add(told < 0 ? tonguesOfTexts.get((Integer) arguments[0]) : (Integer) arguments[told]);
            now += chance.nextInt(3) * chance.nextInt(60);
        }
        cityCount += name.equals("city") ? 1 : 0;
        schoolCount += name.equals("school") ? 1 : 0;
        translatorCount += name.equals("translator") ? 1 : 0;
    }

    private static Method method(Class<?> of, String name) {
        for (Method method : of.getDeclaredMethods()) {
            if (method.getName().equals(name)) {
                return method;
            }
        }
        throw new IllegalStateException(name);
    }

    private static String answer(Object asked, String name, Object[] arguments) {
        try {
            return String.valueOf(method(asked.getClass(), name).invoke(asked, arguments));
        } catch (InvocationTargetException e) {
            RuntimeException thrown = (RuntimeException) e.getCause();
            boolean isOwn = asked instanceof Oracle || Check.isThrownByProgram(thrown);
            return (isOwn ? "throws " : "machine throws ") + thrown.getClass().getSimpleName();
        } catch (IllegalAccessException e) {
            throw new IllegalStateException(e);
        }
    }

    /** The first calls build: cities, words, schools and translators come before what uses them. */
    private String chosen(int call) {
        int built = isWordy ? 180 : 80;
        if (isWordy && call < 120) {
            return "word T E";
        }
        if (call < built) {
            return BUILDING[chance.nextInt(BUILDING.length)];
        }
        if (call == built || call == built + 40) {
            return "original T Y C";
        }
        if (call < built + 80) {
            return TELLING[chance.nextInt(TELLING.length)];
        }
        int sum = 0;
        for (String kind : CALL_KINDS) {
            sum += Integer.parseInt(kind.split(" ")[0]);
        }
        int left = chance.nextInt(sum);
        int i = -1;
        while (left >= 0) {
            i++;
            left -= Integer.parseInt(CALL_KINDS[i].split(" ")[0]);
        }
        return CALL_KINDS[i].substring(CALL_KINDS[i].indexOf(' ') + 1);
    }

    private Object[] arguments(String kind) {
        String[] parts = kind.split(" ");
        Object[] made = new Object[parts.length - 1];
        for (int i = 0; i < made.length; i++) {
            made[i] = argument(parts[i + 1].charAt(0));
        }
        return made;
    }

    private Object argument(char what) {
        if (what == '?') {
            return chance.nextBoolean();
        }
        boolean isStrange = chance.nextInt(strangeness) == 0;
        if (what == 'F' || what == 'A' || what == 'H') {
            String signs = what == 'F' ? "pv" : what == 'A' ? "bcl" : "ws";
            return isStrange ? (char) chance.nextInt(300) : signs.charAt(chance.nextInt(signs.length()));
        }
        return isStrange ? STRANGE[chance.nextInt(STRANGE.length)] : number(what);
    }

    private int below(int bound) {
        return chance.nextInt(Math.max(1, bound));
    }

    private int number(char what) {
        switch (what) {
            case 'T':
                // Mostly another one than that told before: of a word, of a text, or that of the skill from which.
                tongue = chance.nextInt(6) == 0 ? tongue : (tongue + 1 + chance.nextInt(3)) % 4;
                word = below(program.words(tongue));
                return tongue;
            case 'O':
            case 'X':
                text = below(tonguesOfTexts.size());
                if (what == 'O' && !originals.isEmpty()) {
                    text = originals.get(originals.size() - 1 - below(Math.min(2, originals.size())));
                }
                tongue = text < tonguesOfTexts.size() ? tonguesOfTexts.get(text) : tongue;
                word = below(program.words(tongue));
                return text;
            case 'L':
                line = text < tonguesOfTexts.size() ? below(program.sentences(text)) : 0;
                return line;
            case 'G':
                return text < tonguesOfTexts.size() && line < program.sentences(text) ? below(program.signs(text, line)) : 0;
            case 'E':
                return word < program.words(tongue) && chance.nextInt(3) > 0 ? program.senseOf(tongue, word, 0) : chance.nextInt(30);
            case 'Z': return chance.nextInt(30);
            case 'W': return chance.nextInt(12) == 0 ? below(40) : word;
            case 'I': return chance.nextInt(chance.nextInt(4) == 0 ? 3 : 2) * chance.nextInt(2);
            case 'C': return below(cityCount);
            case 'Y': return chance.nextInt(12) == 0 ? chance.nextInt(2001) : Math.min(2000, now + chance.nextInt(4) * 10);
            case 'V': return chance.nextInt(6) == 0 ? 2000 * chance.nextInt(2) : below(now + 50);
            case 'U': return chance.nextInt(4) == 0 ? below(now + 50) : 2000;
            case 'N': return chance.nextBoolean() ? 100 * chance.nextInt(10) + 10 * chance.nextInt(3) : chance.nextInt(1000);
            case 'S': return below(schoolCount);
            case 'P': return below(translatorCount);
            case 'K': return chance.nextInt(10);
            case 'D': return chance.nextInt(100000);
            case 'R': return chance.nextInt(101);
            case 'B': return chance.nextInt(chance.nextInt(6) == 0 ? 9 : 3);
            default: throw new IllegalStateException();
        }
    }
}
