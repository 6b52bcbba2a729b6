import java.lang.reflect.Field;
import java.util.List;

/** Promise 49: isSound. No calls break a land, so it is broken here from behind. */
public final class SoundTest {
    public static void main(String[] args) throws ReflectiveOperationException {
        Check check = new Check();
        RelayedTongues land = land();
        check.due("sound", true, () -> land.isSound());
        check.due("letters", "bh1", () -> "" + land.letterAt(1, 0, 0) + land.letterAt(1, 0, 1) + land.signAt(1, 0, 1));

        broken(check, "fewer signs than the parent", (texts) -> set(sentence(texts, 1), "size", 2));
        broken(check, "a word where the parent has a gap", (texts) -> row(sentence(texts, 3), "signs")[0] = 0);
        broken(check, "a word left standing where the parent has a gap", (texts) -> row(sentence(texts, 3), "signs")[0] = 100);
        sound(check, "a number there", (texts) -> row(sentence(texts, 3), "signs")[0] = 1000);
        broken(check, "b: a word without the sense", (texts) -> row(sentence(texts, 1), "signs")[0] = 1);
        broken(check, "b: a gap", (texts) -> row(sentence(texts, 1), "signs")[0] = -1);
        broken(check, "h: another sense", (texts) -> row(sentence(texts, 1), "senses")[1] = 9);
        for (char letter : "ghbc".toCharArray()) {
            broken(check, letter + ": another sense", (texts) -> {
                letters(sentence(texts, 1))[0] = letter;
                row(sentence(texts, 1), "senses")[0] = 9;
            });
        }
        for (char letter : "=xlm.".toCharArray()) {
            sound(check, letter + ": whatever sense", (texts) -> {
                letters(sentence(texts, 1))[0] = letter;
                row(sentence(texts, 1), "senses")[0] = 9;
            });
        }
        sound(check, "through a relay another sense will do", (texts) -> row(sentence(texts, 4), "senses")[0] = 9);
        broken(check, "through a relay a number will not", (texts) -> row(sentence(texts, 4), "signs")[0] = 1005);
        broken(check, "later than its parent", (texts) -> set(texts.get(0), "year", 2000));
        broken(check, "later than its parent, which is no original", (texts) -> set(texts.get(2), "year", 102));
        broken(check, "a word where its parent has a gap, though the original has a word", (texts) -> row(sentence(texts, 3), "signs")[0] = 1);
        sound(check, "as late as its parent, which is no original", (texts) -> set(texts.get(2), "year", 101));
        sound(check, "as late as its parent", (texts) -> set(texts.get(0), "year", 100));
        check.end();
    }

    private interface Break {
        void at(List<?> texts) throws ReflectiveOperationException;
    }

    /** Texts: 0 an original, 1 a translation, 2 one with a gap, 3 a copy of that, 4 a relay. */
    private static RelayedTongues land() {
        RelayedTongues land = new RelayedTongues();
        land.city();
        land.school('b');
        land.translator(0, 'w');
        land.translator(0, 'w');
        land.word(0, 1);
        land.word(0, 2);
        land.word(1, 20);
        land.word(1, 2);
        land.original(0, 90, 0);
        land.sentence(0, 'p');
        land.say(0, 0, 0);
        land.say(0, 1, 0);
        land.count(0, 7);
        land.skill(0, 0, 1, 9);
        land.translate(0, 0, 1, 100, 0);
        land.skill(0, 0, 1, 0);
        land.translate(0, 0, 1, 100, 0);
        land.copy(2, 101, 0, 0);
        land.skill(0, 0, 2, 9);
        land.skill(1, 2, 3, 9);
        land.relay(0, 0, 1, 2, 3, 102, 0);
        return land;
    }

    private static void broken(Check check, String how, Break breaking) throws ReflectiveOperationException {
        RelayedTongues land = land();
        breaking.at((List<?>) get(land, "texts"));
        check.due(how, false, () -> land.isSound());
    }

    private static void sound(Check check, String how, Break breaking) throws ReflectiveOperationException {
        RelayedTongues land = land();
        breaking.at((List<?>) get(land, "texts"));
        check.due(how, true, () -> land.isSound());
    }

    private static Object sentence(List<?> texts, int text) throws ReflectiveOperationException {
        return ((List<?>) get(texts.get(text), "sentences")).get(0);
    }

    private static int[] row(Object of, String name) throws ReflectiveOperationException {
        return (int[]) get(of, name);
    }

    private static char[] letters(Object sentence) throws ReflectiveOperationException {
        return (char[]) get(sentence, "letters");
    }

    private static Object get(Object of, String name) throws ReflectiveOperationException {
        return field(of, name).get(of);
    }

    private static void set(Object of, String name, int value) throws ReflectiveOperationException {
        field(of, name).setInt(of, value);
    }

    private static Field field(Object of, String name) throws ReflectiveOperationException {
        Field field = of.getClass().getDeclaredField(name);
        field.setAccessible(true);
        return field;
    }
}
