/** Promises 9 to 12 and 24 to 29: original, sentence, say, count, and what stands in texts. */
public final class OriginalsTest {
    private static final Class<IndexOutOfBoundsException> BOUNDS = IndexOutOfBoundsException.class;
    private static final Class<IllegalArgumentException> ARGUMENT = IllegalArgumentException.class;
    private static final Class<UnsupportedOperationException> UNSUPPORTED = UnsupportedOperationException.class;
    private static final Class<IllegalStateException> STATE = IllegalStateException.class;

    public static void main(String[] args) {
        Check check = new Check();
        original(check);
        sentence(check);
        signs(check);
        whatCameFromIt(check);
        check.end();
    }

    private static RelayedTongues land() {
        RelayedTongues land = new RelayedTongues();
        land.city();
        land.word(0, 1);
        land.sense(0, 0, 2);
        land.word(0, 7);
        return land;
    }

    private static void original(Check check) {
        RelayedTongues land = land();
        check.dueThrow("tongue 4", BOUNDS, () -> land.original(4, 2001, 0));
        check.dueThrow("tongue -1", BOUNDS, () -> land.original(-1, 0, 0));
        check.dueThrow("city 1", BOUNDS, () -> land.original(0, 0, 1));
        check.dueThrow("city -1", BOUNDS, () -> land.original(0, 0, -1));
        check.dueThrow("year -1", ARGUMENT, () -> land.original(0, -1, 0));
        check.dueThrow("year 2001", ARGUMENT, () -> land.original(0, 2001, 0));
        for (int i = 0; i < 30; i++) {
            int year = 2000 * (i % 2);
            check.due("original", i, () -> land.original(0, year, 0));
        }
        check.due("no sentences", 0, () -> land.sentences(29));
        check.dueThrow("text 31", STATE, () -> land.original(0, 0, 0));
        check.dueThrow("text 31 in 2001", ARGUMENT, () -> land.original(0, 2001, 0));
        check.dueThrow("sentences of text 30", BOUNDS, () -> land.sentences(30));
        check.dueThrow("sentences of text -1", BOUNDS, () -> land.sentences(-1));
    }

    private static void sentence(Check check) {
        RelayedTongues land = land();
        land.original(0, 5, 0);
        check.dueThrow("text 1", BOUNDS, () -> land.sentence(1, 'x'));
        check.dueThrow("text -1", BOUNDS, () -> land.sentence(-1, 'p'));
        check.dueThrow("frame x", ARGUMENT, () -> land.sentence(0, 'x'));
        check.dueThrow("frame P", ARGUMENT, () -> land.sentence(0, 'P'));
        for (int i = 0; i < 8; i++) {
            char frame = i % 2 == 0 ? 'p' : 'v';
            check.due("sentence", i, () -> land.sentence(0, frame));
        }
        check.dueThrow("sentence 9", STATE, () -> land.sentence(0, 'p'));
        check.dueThrow("sentence 9 of frame x", ARGUMENT, () -> land.sentence(0, 'x'));
        check.due("sentences", 8, () -> land.sentences(0));
        check.due("no signs", 0, () -> land.signs(0, 7));
        land.copy(0, 5, 0, 0);
        check.dueThrow("a copy came", UNSUPPORTED, () -> land.sentence(0, 'p'));
        check.dueThrow("a copy", UNSUPPORTED, () -> land.sentence(1, 'p'));
        check.dueThrow("a copy, frame x", ARGUMENT, () -> land.sentence(1, 'x'));
    }

    private static void signs(Check check) {
        RelayedTongues land = land();
        land.original(0, 5, 0);
        check.dueThrow("say: no sentence", UNSUPPORTED, () -> land.say(0, 0, 0));
        check.dueThrow("count: no sentence", UNSUPPORTED, () -> land.count(0, 0));
        land.sentence(0, 'p');
        check.dueThrow("say: text 1", BOUNDS, () -> land.say(1, 0, 0));
        check.dueThrow("say: word 2", BOUNDS, () -> land.say(0, 2, 0));
        check.dueThrow("say: word -1", BOUNDS, () -> land.say(0, -1, 0));
        check.dueThrow("say: index 2", BOUNDS, () -> land.say(0, 0, 2));
        check.dueThrow("say: index -1", BOUNDS, () -> land.say(0, 0, -1));
        check.dueThrow("count: text 1", BOUNDS, () -> land.count(1, 1000));
        check.dueThrow("count: 1000", ARGUMENT, () -> land.count(0, 1000));
        check.dueThrow("count: -1", ARGUMENT, () -> land.count(0, -1));
        check.due("say", 1, () -> land.say(0, 1, 0));
        check.due("count", 2, () -> land.count(0, 999));
        check.due("say", 3, () -> land.say(0, 0, 1));
        check.due("count", 4, () -> land.count(0, 0));
        check.due("say", 5, () -> land.say(0, 0, 0));
        check.due("say", 6, () -> land.say(0, 0, 0));
        check.dueThrow("say: sign 7", STATE, () -> land.say(0, 0, 0));
        check.dueThrow("count: sign 7", STATE, () -> land.count(0, 0));
        check.dueThrow("count: sign 7, 1000", ARGUMENT, () -> land.count(0, 1000));
        land.sentence(0, 'v');
        check.due("count behind the last sentence", 1, () -> land.count(0, 7));
        check.due("signs", 6, () -> land.signs(0, 0));
        check.due("signs", 1, () -> land.signs(0, 1));
        check.dueThrow("signs: sentence 2", BOUNDS, () -> land.signs(0, 2));
        check.dueThrow("signs: sentence -1", BOUNDS, () -> land.signs(0, -1));
        check.dueThrow("signs: text 1", BOUNDS, () -> land.signs(1, 0));
        check.due("a word", 1, () -> land.signAt(0, 0, 0));
        check.due("a number", 1999, () -> land.signAt(0, 0, 1));
        check.due("a word", 0, () -> land.signAt(0, 0, 2));
        check.due("nought", 1000, () -> land.signAt(0, 0, 3));
        check.due("a number", 1007, () -> land.signAt(0, 1, 0));
        check.due("letter of a word", '=', () -> land.letterAt(0, 0, 5));
        check.due("letter of a number", '=', () -> land.letterAt(0, 1, 0));
        check.dueThrow("signAt: place 6", BOUNDS, () -> land.signAt(0, 0, 6));
        check.dueThrow("signAt: place 1", BOUNDS, () -> land.signAt(0, 1, 1));
        check.dueThrow("signAt: place -1", BOUNDS, () -> land.signAt(0, 1, -1));
        check.dueThrow("signAt: sentence 2", BOUNDS, () -> land.signAt(0, 2, 0));
        check.dueThrow("signAt: text 1", BOUNDS, () -> land.signAt(1, 0, 0));
        check.dueThrow("letterAt: place 1", BOUNDS, () -> land.letterAt(0, 1, 1));
        check.dueThrow("letterAt: place -1", BOUNDS, () -> land.letterAt(0, 1, -1));
        check.dueThrow("letterAt: sentence -1", BOUNDS, () -> land.letterAt(0, -1, 0));
        check.dueThrow("letterAt: text -1", BOUNDS, () -> land.letterAt(-1, 0, 0));
    }

    private static void whatCameFromIt(Check check) {
        RelayedTongues land = land();
        land.original(0, 5, 0);
        land.sentence(0, 'p');
        land.say(0, 0, 0);
        land.original(0, 6, 0);
        land.sentence(1, 'p');
        land.sentence(1, 'p');
        // Only sentence 0 of text 0 and sentence 1 of text 1 go into the volume.
        land.bind(0, 1, 1, 10);
        check.due("sentences", 2, () -> land.sentences(2));
        check.due("comesFrom", 0, () -> land.comesFrom(2, 0));
        check.due("comesFrom", 11, () -> land.comesFrom(2, 1));
        check.due("comesFrom of an original", 11, () -> land.comesFrom(1, 1));
        check.due("parentOf", 11, () -> land.parentOf(2, 1));
        land.copy(2, 11, 0, 0);
        check.due("comesFrom of a grandchild", 11, () -> land.comesFrom(3, 1));
        check.due("parentOf a grandchild", 21, () -> land.parentOf(3, 1));
        check.dueThrow("parentOf an original", java.util.NoSuchElementException.class, () -> land.parentOf(1, 1));
        check.dueThrow("parentOf: sentence 2", BOUNDS, () -> land.parentOf(1, 2));
        check.dueThrow("parentOf: text 4", BOUNDS, () -> land.parentOf(4, 0));
        check.dueThrow("comesFrom: sentence 2", BOUNDS, () -> land.comesFrom(3, 2));
        check.dueThrow("comesFrom: sentence -1", BOUNDS, () -> land.comesFrom(3, -1));
        check.dueThrow("comesFrom: text -1", BOUNDS, () -> land.comesFrom(-1, 0));
        check.dueThrow("sentence: something came", UNSUPPORTED, () -> land.sentence(0, 'p'));
        check.dueThrow("say: something came", UNSUPPORTED, () -> land.say(1, 0, 0));
        check.dueThrow("count: something came", UNSUPPORTED, () -> land.count(1, 0));
        check.dueThrow("say: a volume", UNSUPPORTED, () -> land.say(2, 0, 0));
        check.dueThrow("count: a volume", UNSUPPORTED, () -> land.count(2, 0));
        check.dueThrow("say: a volume, word 2", BOUNDS, () -> land.say(2, 2, 0));
        land.original(0, 7, 0);
        land.copy(4, 7, 0, 0);
        check.due("nothing came with a sentence of it", 0, () -> land.sentence(4, 'p'));
        land.bind(0, 4, 1, 10);
        check.due("the volume has no sentence of it", 1, () -> land.say(4, 0, 0));
        check.due("nor now", 2, () -> land.count(4, 8));
    }
}
