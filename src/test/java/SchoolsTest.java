import java.util.NoSuchElementException;

/** Promises 13 to 18 and 30: school, gloss, teach, glossed, translator, skill, read. */
public final class SchoolsTest {
    private static final Class<IndexOutOfBoundsException> BOUNDS = IndexOutOfBoundsException.class;
    private static final Class<IllegalArgumentException> ARGUMENT = IllegalArgumentException.class;
    private static final Class<IllegalStateException> STATE = IllegalStateException.class;

    public static void main(String[] args) {
        Check check = new Check();
        school(check);
        gloss(check);
        teach(check);
        translator(check);
        skill(check);
        readWordByWord(check);
        readBySense(check);
        check.end();
    }

    private static void school(Check check) {
        RelayedTongues land = new RelayedTongues();
        check.dueThrow("way x", ARGUMENT, () -> land.school('x'));
        check.due("borrow", 0, () -> land.school('b'));
        check.due("calque", 1, () -> land.school('c'));
        check.due("leave", 2, () -> land.school('l'));
        check.due("borrow", 3, () -> land.school('b'));
        check.dueThrow("school 5", STATE, () -> land.school('b'));
        check.dueThrow("school 5, way x", ARGUMENT, () -> land.school('B'));
    }

    private static RelayedTongues land() {
        RelayedTongues land = new RelayedTongues();
        land.city();
        land.school('b');
        land.school('l');
        land.word(1, 3);
        land.sense(1, 0, 29);
        land.word(1, 3);
        land.word(0, 3);
        return land;
    }

    private static void gloss(Check check) {
        RelayedTongues land = land();
        check.dueThrow("school 2", BOUNDS, () -> land.gloss(2, 1, 3, 0, 0));
        check.dueThrow("school -1", BOUNDS, () -> land.gloss(-1, 1, 3, 0, 0));
        check.dueThrow("tongue 4", BOUNDS, () -> land.gloss(0, 4, 3, 0, 0));
        check.dueThrow("word 2", BOUNDS, () -> land.gloss(0, 1, 99, 2, 0));
        check.dueThrow("word -1", BOUNDS, () -> land.gloss(0, 1, 3, -1, 0));
        check.dueThrow("sense 30", ARGUMENT, () -> land.gloss(0, 1, 30, 0, 0));
        check.dueThrow("sense -1", ARGUMENT, () -> land.gloss(0, 1, -1, 0, 0));
        check.dueThrow("year 2001", ARGUMENT, () -> land.gloss(0, 1, 4, 0, 2001));
        check.dueThrow("year -1", ARGUMENT, () -> land.gloss(0, 1, 3, 0, -1));
        check.dueThrow("not its sense", UnsupportedOperationException.class, () -> land.gloss(0, 1, 4, 0, 0));
        check.due("first", -1, () -> land.gloss(0, 1, 3, 0, 100));
        check.due("before it", -1, () -> land.gloss(0, 1, 3, 1, 50));
        check.due("behind both", 0, () -> land.gloss(0, 1, 3, 1, 200));
        check.due("in between", 1, () -> land.gloss(0, 1, 3, 1, 99));
        check.due("in that year again", 0, () -> land.gloss(0, 1, 3, 1, 100));
        check.due("in that year once more", 1, () -> land.gloss(0, 1, 3, 0, 100));
        check.due("another sense", -1, () -> land.gloss(0, 1, 29, 0, 2000));
        check.due("another school", -1, () -> land.gloss(1, 1, 3, 1, 2000));
        check.due("another tongue", -1, () -> land.gloss(0, 0, 3, 0, 2000));
        check.due("what was told for the sense 29", 0, () -> land.glossed(0, 1, 29, 2000));
        check.due("what was told of tongue 1", 1, () -> land.glossed(0, 1, 3, 2000));
        check.due("in one year of tongue 1", 1, () -> land.gloss(0, 1, 3, 1, 2000));
        check.due("and of another sense of it", 0, () -> land.gloss(0, 1, 29, 0, 2000));
        check.due("which leaves the first", 1, () -> land.glossed(0, 1, 3, 2000));
        check.due("and that of tongue 0", 0, () -> land.glossed(0, 0, 3, 2000));
        check.due("glossed then", 0, () -> land.glossed(0, 1, 3, 100));
        check.due("glossed till then", 0, () -> land.glossed(0, 1, 3, 199));
        check.due("glossed from then on", 1, () -> land.glossed(0, 1, 3, 200));
        check.due("glossed before", 1, () -> land.glossed(0, 1, 3, 50));
        check.dueThrow("not yet", NoSuchElementException.class, () -> land.glossed(0, 1, 3, 49));
        check.dueThrow("never", NoSuchElementException.class, () -> land.glossed(0, 1, 5, 2000));
        check.dueThrow("glossed: school 2", BOUNDS, () -> land.glossed(2, 1, 3, 2001));
        check.dueThrow("glossed: tongue 4", BOUNDS, () -> land.glossed(0, 4, 3, 100));
        check.dueThrow("glossed: tongue -1", BOUNDS, () -> land.glossed(0, -1, 3, 100));
        check.dueThrow("glossed: sense 30", ARGUMENT, () -> land.glossed(0, 1, 30, 100));
        check.dueThrow("glossed: year 2001", ARGUMENT, () -> land.glossed(0, 1, 5, 2001));
        check.dueThrow("glossed: year -1", ARGUMENT, () -> land.glossed(0, 1, 3, -1));
    }

    private static void teach(Check check) {
        RelayedTongues land = land();
        check.dueThrow("school 2", BOUNDS, () -> land.teach(2, 1, 0, 0, 0));
        check.dueThrow("tongue 4", BOUNDS, () -> land.teach(0, 4, 0, 0, 0));
        check.dueThrow("tongue -1", BOUNDS, () -> land.teach(0, -1, 0, 0, 0));
        check.dueThrow("word 2", BOUNDS, () -> land.teach(0, 1, 2, 0, 0));
        check.dueThrow("index 2", BOUNDS, () -> land.teach(0, 1, 0, 2, 2001));
        check.dueThrow("index -1", BOUNDS, () -> land.teach(0, 1, 0, -1, 0));
        check.dueThrow("year 2001", ARGUMENT, () -> land.teach(0, 1, 0, 0, 2001));
        check.dueThrow("year -1", ARGUMENT, () -> land.teach(0, 1, 0, 0, -1));
        check.due("first", -1, () -> land.teach(0, 1, 0, 1, 100));
        check.due("later", 1, () -> land.teach(0, 1, 0, 0, 150));
        check.due("before", -1, () -> land.teach(0, 1, 0, 0, 99));
        check.due("in that year again", 1, () -> land.teach(0, 1, 0, 0, 100));
        check.due("in that year once more", 0, () -> land.teach(0, 1, 0, 1, 100));
        check.due("till then", 1, () -> land.teach(0, 1, 0, 1, 149));
        check.due("another word", -1, () -> land.teach(0, 1, 1, 0, 2000));
        check.due("another tongue", -1, () -> land.teach(0, 0, 0, 0, 2000));
        check.due("another school", -1, () -> land.teach(1, 1, 0, 0, 2000));
    }

    private static void translator(Check check) {
        RelayedTongues land = land();
        check.dueThrow("school 2", BOUNDS, () -> land.translator(2, 'x'));
        check.dueThrow("school -1", BOUNDS, () -> land.translator(-1, 'w'));
        check.dueThrow("habit x", ARGUMENT, () -> land.translator(0, 'x'));
        for (int i = 0; i < 8; i++) {
            char habit = i % 2 == 0 ? 'w' : 's';
            check.due("translator", i, () -> land.translator(0, habit));
        }
        check.dueThrow("translator 9", STATE, () -> land.translator(1, 'w'));
        check.dueThrow("translator 9, habit x", ARGUMENT, () -> land.translator(1, 'x'));
    }

    private static void skill(Check check) {
        RelayedTongues land = land();
        land.translator(0, 'w');
        land.translator(0, 'w');
        check.dueThrow("translator 2", BOUNDS, () -> land.skill(2, 0, 1, 1));
        check.dueThrow("translator -1", BOUNDS, () -> land.skill(-1, 0, 1, 1));
        check.dueThrow("from 4", BOUNDS, () -> land.skill(0, 4, 1, 1));
        check.dueThrow("into -1", BOUNDS, () -> land.skill(0, 0, -1, 10));
        check.dueThrow("same", ARGUMENT, () -> land.skill(0, 1, 1, 1));
        check.dueThrow("skill 10", ARGUMENT, () -> land.skill(0, 0, 1, 10));
        check.dueThrow("skill -1", ARGUMENT, () -> land.skill(0, 0, 1, -1));
        check.due("at first", 0, () -> land.skill(0, 2, 3, 9));
        check.due("then", 9, () -> land.skill(0, 2, 3, 4));
        check.due("the other way", 0, () -> land.skill(0, 3, 2, 1));
        check.due("another one's", 0, () -> land.skill(1, 2, 3, 1));
        check.due("then", 4, () -> land.skill(0, 2, 3, 0));
    }

    private static void readWordByWord(Check check) {
        RelayedTongues land = land();
        land.translator(0, 'w');
        land.translator(1, 'w');
        land.original(1, 100, 0);
        land.sentence(0, 'p');
        land.say(0, 0, 1);
        land.count(0, 10);
        land.teach(0, 1, 0, 1, 200);
        land.sense(1, 0, 4);
        check.due("the first sense", 3, () -> land.read(0, 0, 0, 0, 199));
        check.due("what is taught", 29, () -> land.read(0, 0, 0, 0, 200));
        check.due("not in the other school", 3, () -> land.read(0, 0, 0, 1, 200));
        land.teach(0, 1, 0, 2, 0);
        check.due("what was taught later for before", 4, () -> land.read(0, 0, 0, 0, 199));
        check.dueThrow("text 1", BOUNDS, () -> land.read(1, 0, 0, 0, 0));
        check.dueThrow("sentence 1", BOUNDS, () -> land.read(0, 1, 0, 0, 0));
        check.dueThrow("place 2", BOUNDS, () -> land.read(0, 0, 2, 0, 0));
        check.dueThrow("place -1", BOUNDS, () -> land.read(0, 0, -1, 0, 0));
        check.dueThrow("translator 2", BOUNDS, () -> land.read(0, 0, 1, 2, 2001));
        check.dueThrow("translator -1", BOUNDS, () -> land.read(0, 0, 1, -1, 0));
        check.dueThrow("year 2001", ARGUMENT, () -> land.read(0, 0, 1, 0, 2001));
        check.dueThrow("year -1", ARGUMENT, () -> land.read(0, 0, 0, 0, -1));
        check.dueThrow("a number", NoSuchElementException.class, () -> land.read(0, 0, 1, 0, 0));
        // With skill 9 and no words a school of way l leaves the word standing.
        land.skill(1, 1, 2, 9);
        land.translate(0, 1, 2, 100, 0);
        check.due("left standing", 200, () -> land.signAt(1, 0, 0));
        check.due("left standing, it is read as well", 3, () -> land.read(1, 0, 0, 1, 100));
        check.due("by what is taught", 29, () -> land.read(1, 0, 0, 0, 2000));
        land.skill(0, 1, 3, 0);
        // The seed 0 begins with a draw of 0 and an even one: a gap.
        land.translate(0, 0, 3, 100, 0);
        check.dueThrow("a gap", NoSuchElementException.class, () -> land.read(2, 0, 0, 0, 0));
    }

    private static void readBySense(Check check) {
        RelayedTongues land = new RelayedTongues();
        land.city();
        land.school('l');
        land.translator(0, 's');
        land.word(0, 5);
        land.sense(0, 0, 6);
        land.sense(0, 0, 29);
        land.word(0, 11);
        land.word(0, 12);
        land.sense(0, 2, 24);
        land.sense(0, 2, 25);
        land.original(0, 100, 0);
        land.sentence(0, 'p');
        land.say(0, 0, 0);
        check.due("alone: the first", 5, () -> land.read(0, 0, 0, 0, 0));
        land.count(0, 7);
        land.say(0, 1, 0);
        check.due("the field of 6 and 11", 6, () -> land.read(0, 0, 0, 0, 0));
        land.say(0, 2, 0);
        check.due("24, 25 and 29 are more", 29, () -> land.read(0, 0, 0, 0, 0));
        check.due("the word itself aside, the other's 29 tells 24", 24, () -> land.read(0, 0, 3, 0, 0));
        land.say(0, 1, 0);
        check.due("two each: the first of them", 6, () -> land.read(0, 0, 0, 0, 0));
        land.say(0, 0, 0);
        check.due("the same word at another place: 3 each, the first of them", 6, () -> land.read(0, 0, 0, 0, 0));
        land.sense(0, 1, 0);
        check.due("a sense more at two places", 5, () -> land.read(0, 0, 0, 0, 0));
        land.teach(0, 0, 0, 2, 50);
        check.due("what is taught goes ahead", 29, () -> land.read(0, 0, 0, 0, 50));
        check.due("not before", 5, () -> land.read(0, 0, 0, 0, 49));
        land.skill(0, 0, 1, 9);
        land.translate(0, 0, 1, 100, 0);
        check.due("left standing", 100, () -> land.signAt(1, 0, 0));
        check.due("words left standing tell as well", 5, () -> land.read(1, 0, 0, 0, 49));
    }
}
