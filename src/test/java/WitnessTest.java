import java.util.NoSuchElementException;

/** Promises 42 to 45: likely, cost, stands, times. */
public final class WitnessTest {
    private static final Class<IndexOutOfBoundsException> BOUNDS = IndexOutOfBoundsException.class;
    private static final Class<IllegalArgumentException> ARGUMENT = IllegalArgumentException.class;
    private static final Class<UnsupportedOperationException> UNSUPPORTED = UnsupportedOperationException.class;
    private static final Class<NoSuchElementException> NONE = NoSuchElementException.class;

    public static void main(String[] args) {
        Check check = new Check();
        likely(check);
        withoutWords(check);
        otherSentences(check);
        manyWitnesses(check);
        stands(check);
        lastWordStanding(check);
        check.end();
    }

    private static RelayedTongues land() {
        RelayedTongues land = new RelayedTongues();
        land.city();
        land.school('l');
        land.translator(0, 'w');
        land.word(0, 1);
        land.sense(0, 0, 2);
        land.word(0, 2);
        land.word(0, 3);
        land.word(1, 2);
        land.word(1, 3);
        land.original(0, 100, 0);
        land.sentence(0, 'p');
        return land;
    }

    private static void likely(Check check) {
        RelayedTongues land = land();
        land.say(0, 1, 0);
        land.count(0, 5);
        land.copy(0, 100, 100, 0);
        check.dueThrow("no text of another tongue", NONE, () -> land.likely(0, 0, 0));
        check.dueThrow("no text of another tongue", NONE, () -> land.cost(0, 0, 0));
        land.skill(0, 0, 1, 9);
        land.translate(0, 0, 1, 100, 0);
        check.due("the lowest that has the sense 2", 0, () -> land.likely(0, 0, 0));
        check.due("it explains it", 0, () -> land.cost(0, 0, 0));
        check.due("a number is not explained", 1, () -> land.cost(0, 0, 1));
        check.due("so it is the lowest word", 0, () -> land.likely(0, 0, 1));
        // Copies in another tongue count too: with the word behind, which has the sense 3.
        land.copy(2, 101, 100, 0);
        check.due("2 or 3: one is not explained", 1, () -> land.cost(0, 0, 0));
        check.due("the lowest of several", 0, () -> land.likely(0, 0, 0));
        land.copy(2, 101, 100, 0);
        check.due("3 twice", 2, () -> land.likely(0, 0, 0));
        check.due("and 2 once", 1, () -> land.cost(0, 0, 0));
        // In tongue 2 there are no words: it is left standing, and read all the same.
        land.skill(0, 0, 2, 9);
        land.translate(0, 0, 2, 101, 0);
        check.due("left standing", 101, () -> land.signAt(5, 0, 0));
        check.due("2 twice, 3 twice", 0, () -> land.likely(0, 0, 0));
        check.due("two are not explained", 2, () -> land.cost(0, 0, 0));
        // The seed 0 with skill 0 leaves a gap.
        land.skill(0, 0, 2, 0);
        land.translate(0, 0, 2, 101, 0);
        check.due("a gap is not explained", 3, () -> land.cost(0, 0, 0));
        check.due("likely", 0, () -> land.likely(0, 0, 0));
        check.dueThrow("likely: text 7", BOUNDS, () -> land.likely(7, 0, 0));
        check.dueThrow("likely: sentence 1", BOUNDS, () -> land.likely(0, 1, 0));
        check.dueThrow("likely: place 2", BOUNDS, () -> land.likely(0, 0, 2));
        check.dueThrow("likely: place -1", BOUNDS, () -> land.likely(0, 0, -1));
        check.dueThrow("likely: a translation", UNSUPPORTED, () -> land.likely(2, 0, 0));
        check.dueThrow("likely: a translation, place 2", BOUNDS, () -> land.likely(2, 0, 2));
        check.dueThrow("cost: text -1", BOUNDS, () -> land.cost(-1, 0, 0));
        check.dueThrow("cost: sentence -1", BOUNDS, () -> land.cost(0, -1, 0));
        check.dueThrow("cost: place 2", BOUNDS, () -> land.cost(0, 0, 2));
        check.dueThrow("cost: a copy", UNSUPPORTED, () -> land.cost(1, 0, 0));
        check.dueThrow("cost: a copy, place 2", BOUNDS, () -> land.cost(1, 0, 2));
    }

    private static void withoutWords(Check check) {
        RelayedTongues land = new RelayedTongues();
        land.city();
        land.school('l');
        land.translator(0, 'w');
        land.original(0, 100, 0);
        land.sentence(0, 'p');
        land.count(0, 5);
        land.translate(0, 0, 1, 100, 0);
        check.dueThrow("likely: its tongue has no words", NONE, () -> land.likely(0, 0, 0));
        check.dueThrow("cost: its tongue has no words", NONE, () -> land.cost(0, 0, 0));
        land.word(0, 5);
        check.due("likely", 0, () -> land.likely(0, 0, 0));
        check.due("cost", 1, () -> land.cost(0, 0, 0));
    }

    private static void otherSentences(Check check) {
        RelayedTongues land = land();
        land.say(0, 1, 0);
        land.sentence(0, 'p');
        land.say(0, 2, 0);
        land.original(0, 100, 0);
        land.sentence(1, 'p');
        land.say(1, 2, 0);
        land.skill(0, 0, 1, 9);
        land.translate(0, 0, 1, 100, 0);
        land.translate(1, 0, 1, 100, 0);
        check.due("sentence 0", 0, () -> land.likely(0, 0, 0));
        check.due("all is explained", 0, () -> land.cost(0, 0, 0));
        check.due("sentence 1", 2, () -> land.likely(0, 1, 0));
        check.due("all is explained", 0, () -> land.cost(0, 1, 0));
        check.due("another original", 2, () -> land.likely(1, 0, 0));
        check.due("all is explained", 0, () -> land.cost(1, 0, 0));
    }

    /** Volumes can have one sentence eight times. */
    private static void manyWitnesses(Check check) {
        RelayedTongues land = land();
        for (int i = 1; i < 8; i++) {
            land.sentence(0, 'p');
        }
        land.count(0, 5);
        land.original(1, 100, 0);
        int all = land.translate(0, 0, 1, 100, 0);
        int volume = land.bind(1, all, 7, 100);
        int heard = 1 + 1;
        for (int k = 1; k < 8; k++) {
            int tail = land.bind(1, all, 7 - k, 100);
            volume = land.bind(volume, tail, k, 100);
            heard += 1 + k + 1;
        }
        int eightfold = volume;
        check.due("sentences", 8, () -> land.sentences(eightfold));
        for (int text = eightfold + 1; text < 30; text++) {
            land.copy(eightfold, 100, 0, 0);
            heard += 8;
        }
        check.due("each is a witness, and none is explained", heard, () -> land.cost(0, 7, 0));
    }

    private static void lastWordStanding(Check check) {
        RelayedTongues land = new RelayedTongues();
        land.city();
        land.school('l');
        land.translator(0, 'w');
        for (int i = 0; i < 40; i++) {
            land.word(3, 7);
        }
        land.original(3, 100, 0);
        land.sentence(0, 'p');
        land.say(0, 39, 0);
        land.skill(0, 3, 0, 9);
        land.translate(0, 0, 0, 100, 0);
        check.due("the greatest sign of a word", 439, () -> land.signAt(1, 0, 0));
        check.due("stands", 439, () -> land.stands(3, 39, 0));
        check.due("times", 1, () -> land.times(3, 39, 0));
        check.due("right", true, () -> land.isRight(1, 0, 0));
        check.due("read", 7, () -> land.read(1, 0, 0, 0, 100));
    }

    private static void stands(Check check) {
        RelayedTongues land = land();
        land.say(0, 1, 0);
        land.say(0, 1, 0);
        land.say(0, 0, 0);
        check.dueThrow("stands: tongue 4", BOUNDS, () -> land.stands(4, 0, 4));
        check.dueThrow("stands: into -1", BOUNDS, () -> land.stands(0, 0, -1));
        check.dueThrow("stands: word 3", BOUNDS, () -> land.stands(0, 3, 0));
        check.dueThrow("stands: word -1", BOUNDS, () -> land.stands(0, -1, 1));
        check.dueThrow("stands: the same", ARGUMENT, () -> land.stands(0, 0, 0));
        check.dueThrow("stands: nothing", NONE, () -> land.stands(0, 0, 1));
        check.dueThrow("times: tongue -1", BOUNDS, () -> land.times(-1, 0, -1));
        check.dueThrow("times: into 4", BOUNDS, () -> land.times(0, 0, 4));
        check.dueThrow("times: word 3", BOUNDS, () -> land.times(0, 3, 0));
        check.dueThrow("times: the same", ARGUMENT, () -> land.times(0, 0, 0));
        check.due("times: nothing", 0, () -> land.times(0, 0, 1));
        land.skill(0, 0, 1, 9);
        land.translate(0, 0, 1, 100, 0);
        check.due("stands", 0, () -> land.stands(0, 1, 1));
        check.due("each place counts", 2, () -> land.times(0, 1, 1));
        check.due("left standing", 100, () -> land.stands(0, 0, 1));
        check.due("times", 1, () -> land.times(0, 0, 1));
        land.copy(1, 101, 100, 0);
        land.bind(1, 2, 1, 101);
        check.due("not by a copy or a volume", 2, () -> land.times(0, 1, 1));
        check.due("nor in the copy's tongue from it", 0, () -> land.times(1, 0, 0));
        // The seed 24 draws 3 (an odd one follows? no: 90, even: a gap), 5 and 85: odd, the word behind.
        land.skill(0, 0, 1, 0);
        land.translate(0, 0, 1, 101, 24);
        check.due("gap", -1, () -> land.signAt(4, 0, 0));
        check.due("slip", 1, () -> land.signAt(4, 0, 1));
        check.due("the most", 0, () -> land.stands(0, 1, 1));
        land.copy(0, 101, 0, 0);
        land.translate(5, 0, 1, 101, 24);
        check.due("two each: the lowest", 0, () -> land.stands(0, 1, 1));
        check.due("times", 2, () -> land.times(0, 1, 1));
        land.translate(5, 0, 1, 101, 24);
        check.due("three: of parents that are no originals too", 1, () -> land.stands(0, 1, 1));
        check.due("times", 3, () -> land.times(0, 1, 1));
        // A revision: the first sentence of text 4 is marred, so it is rendered anew from text 0.
        land.skill(0, 0, 1, 9);
        land.revise(4, 0, 0, 102, 0);
        check.due("a revision counts where it is changed", 0, () -> land.stands(0, 1, 1));
        check.due("times", 4, () -> land.times(0, 1, 1));
        // Words are left standing, so it is marred still, but text 9 has no such sentence.
        land.original(0, 100, 0);
        land.sentence(9, 'p');
        land.revise(8, 9, 0, 102, 0);
        check.due("an unchanged one does not", 4, () -> land.times(0, 1, 1));
        check.due("from the other one's side nothing came", 0, () -> land.times(1, 0, 0));
        land.skill(0, 1, 2, 9);
        land.word(2, 2);
        land.translate(1, 0, 2, 103, 0);
        check.due("for a word of the tongue of the parent", 0, () -> land.stands(1, 0, 2));
        check.dueThrow("not for one that stands in it", NONE, () -> land.stands(0, 0, 2));
        check.dueThrow("nor for that of the original", NONE, () -> land.stands(0, 1, 2));
        land.translator(0, 's');
        land.relay(0, 0, 1, 2, 1, 104, 0);
        check.due("a relay counts as well", true, () -> land.times(0, 1, 1) >= 4);
        check.due("with nothing of the tongue in between", 2, () -> land.times(1, 0, 2));
    }
}
