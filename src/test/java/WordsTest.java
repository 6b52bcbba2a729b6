/** Promises 1 to 6: a new object, word, sense, senseOf, words, nought. */
public final class WordsTest {
    private static final Class<IndexOutOfBoundsException> BOUNDS = IndexOutOfBoundsException.class;
    private static final Class<IllegalArgumentException> ARGUMENT = IllegalArgumentException.class;
    private static final Class<UnsupportedOperationException> UNSUPPORTED = UnsupportedOperationException.class;
    private static final Class<IllegalStateException> STATE = IllegalStateException.class;

    public static void main(String[] args) {
        Check check = new Check();
        newObject(check);
        word(check);
        sense(check);
        nought(check);
        check.end();
    }

    private static void newObject(Check check) {
        RelayedTongues land = new RelayedTongues();
        for (int i = 0; i < 4; i++) {
            int tongue = i;
            check.due("words of a new object", 0, () -> land.words(tongue));
            check.due("nought of a new object", true, () -> land.nought(tongue, true));
        }
        check.dueThrow("no text", BOUNDS, () -> land.sentences(0));
        check.dueThrow("no translator", BOUNDS, () -> land.skill(0, 0, 1, 1));
        check.dueThrow("no school", BOUNDS, () -> land.translator(0, 'w'));
        check.dueThrow("no city", BOUNDS, () -> land.original(0, 0, 0));
        check.dueThrow("no signs", ArithmeticException.class, () -> land.rightShare());
        check.due("isSound", true, () -> land.isSound());
        check.due("city", 0, () -> land.city());
        check.due("school", 0, () -> land.school('b'));
        check.due("translator", 0, () -> land.translator(0, 'w'));
        check.due("original", 0, () -> land.original(0, 0, 0));
    }

    private static void word(Check check) {
        RelayedTongues land = new RelayedTongues();
        check.dueThrow("tongue -1", BOUNDS, () -> land.word(-1, 0));
        check.dueThrow("tongue 4", BOUNDS, () -> land.word(4, 99));
        check.dueThrow("sense -1", ARGUMENT, () -> land.word(0, -1));
        check.dueThrow("sense 30", ARGUMENT, () -> land.word(0, 30));
        for (int i = 0; i < 40; i++) {
            int number = i;
            check.due("word", number, () -> land.word(2, number % 30));
        }
        check.due("words", 40, () -> land.words(2));
        check.due("words of another tongue", 0, () -> land.words(1));
        check.dueThrow("word 41", STATE, () -> land.word(2, 29));
        check.dueThrow("word 41 with a wrong sense", ARGUMENT, () -> land.word(2, 30));
        check.due("words still", 40, () -> land.words(2));
        check.due("word of another tongue", 0, () -> land.word(3, 29));
        check.due("sense 0", 0, () -> land.senseOf(2, 30, 0));
        check.due("sense 29", 29, () -> land.senseOf(3, 0, 0));
        check.dueThrow("words of -1", BOUNDS, () -> land.words(-1));
        check.dueThrow("words of 4", BOUNDS, () -> land.words(4));
    }

    private static void sense(Check check) {
        RelayedTongues land = new RelayedTongues();
        land.word(1, 5);
        check.due("second sense", 2, () -> land.sense(1, 0, 29));
        check.dueThrow("a sense that it has", UNSUPPORTED, () -> land.sense(1, 0, 5));
        check.due("third sense", 3, () -> land.sense(1, 0, 0));
        check.dueThrow("fourth sense", STATE, () -> land.sense(1, 0, 7));
        check.dueThrow("fourth sense that it has", UNSUPPORTED, () -> land.sense(1, 0, 29));
        check.dueThrow("sense 30", ARGUMENT, () -> land.sense(1, 0, 30));
        check.dueThrow("sense -1", ARGUMENT, () -> land.sense(1, 0, -1));
        check.dueThrow("word 1", BOUNDS, () -> land.sense(1, 1, 30));
        check.dueThrow("word -1", BOUNDS, () -> land.sense(1, -1, 1));
        check.dueThrow("tongue 4", BOUNDS, () -> land.sense(4, 0, 1));
        check.dueThrow("tongue -1", BOUNDS, () -> land.sense(-1, 0, 1));
        check.due("the first", 5, () -> land.senseOf(1, 0, 0));
        check.due("the second", 29, () -> land.senseOf(1, 0, 1));
        check.due("the third", 0, () -> land.senseOf(1, 0, 2));
        check.dueThrow("index 3", BOUNDS, () -> land.senseOf(1, 0, 3));
        check.dueThrow("index -1", BOUNDS, () -> land.senseOf(1, 0, -1));
        check.dueThrow("word 1", BOUNDS, () -> land.senseOf(1, 1, 0));
        check.dueThrow("word -1", BOUNDS, () -> land.senseOf(1, -1, 0));
        check.dueThrow("tongue 4", BOUNDS, () -> land.senseOf(4, 0, 0));
        check.dueThrow("tongue -1", BOUNDS, () -> land.senseOf(-1, 0, 0));
    }

    private static void nought(Check check) {
        RelayedTongues land = new RelayedTongues();
        check.due("at first", true, () -> land.nought(3, false));
        check.due("then", false, () -> land.nought(3, false));
        check.due("then", false, () -> land.nought(3, true));
        check.due("again", true, () -> land.nought(3, true));
        check.due("another", true, () -> land.nought(0, true));
        check.dueThrow("tongue 4", BOUNDS, () -> land.nought(4, true));
        check.dueThrow("tongue -1", BOUNDS, () -> land.nought(-1, true));
    }
}
