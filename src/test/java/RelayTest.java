/** Promise 20: relay. */
public final class RelayTest {
    private static final Class<IndexOutOfBoundsException> BOUNDS = IndexOutOfBoundsException.class;
    private static final Class<IllegalArgumentException> ARGUMENT = IllegalArgumentException.class;
    private static final Class<UnsupportedOperationException> UNSUPPORTED = UnsupportedOperationException.class;

    public static void main(String[] args) {
        Check check = new Check();
        throwing(check);
        full(check);
        words(check);
        letters(check);
        draws(check);
        check.end();
    }

    private static RelayedTongues land(char readersWay, char writersWay, char frame) {
        RelayedTongues land = new RelayedTongues();
        land.city();
        land.school(readersWay);
        land.school(writersWay);
        land.translator(0, 'w');
        land.translator(1, 's');
        land.word(0, 1);
        land.sense(0, 0, 2);
        land.word(0, 7);
        land.original(0, 100, 0);
        land.sentence(0, frame);
        return land;
    }

    private static String line(RelayedTongues land, int text, int sentence) {
        StringBuilder told = new StringBuilder();
        for (int place = 0; place < land.signs(text, sentence); place++) {
            told.append(land.signAt(text, sentence, place)).append(land.letterAt(text, sentence, place)).append(' ');
        }
        return told.toString().trim();
    }

    private static void throwing(Check check) {
        RelayedTongues land = land('b', 'b', 'p');
        land.say(0, 0, 0);
        check.dueThrow("text 1", BOUNDS, () -> land.relay(1, 0, 1, 1, 2, 100, 0));
        check.dueThrow("reader 2", BOUNDS, () -> land.relay(0, 2, 1, 1, 1, 100, 0));
        check.dueThrow("writer 2", BOUNDS, () -> land.relay(0, 0, 2, 1, 2, 2001, 0));
        check.dueThrow("writer -1", BOUNDS, () -> land.relay(0, 0, -1, 1, 2, 100, 0));
        check.dueThrow("through 4", BOUNDS, () -> land.relay(0, 0, 1, 4, 2, 100, 0));
        check.dueThrow("tongue -1", BOUNDS, () -> land.relay(0, 0, 1, 1, -1, 100, 0));
        check.dueThrow("through the text's own", ARGUMENT, () -> land.relay(0, 0, 0, 0, 2, 99, 0));
        check.dueThrow("into the text's own", ARGUMENT, () -> land.relay(0, 0, 1, 1, 0, 100, 0));
        check.dueThrow("through that into which", ARGUMENT, () -> land.relay(0, 0, 1, 2, 2, 100, 0));
        check.dueThrow("year 2001", ARGUMENT, () -> land.relay(0, 0, 1, 1, 2, 2001, 0));
        check.dueThrow("year -1", ARGUMENT, () -> land.relay(0, 0, 1, 1, 2, -1, 0));
        check.dueThrow("seed 100000", ARGUMENT, () -> land.relay(0, 0, 0, 1, 2, 100, 100000));
        check.dueThrow("seed -1", ARGUMENT, () -> land.relay(0, 0, 1, 1, 2, 100, -1));
        check.dueThrow("too early", UNSUPPORTED, () -> land.relay(0, 0, 1, 1, 2, 99, 0));
        check.dueThrow("one translator", UNSUPPORTED, () -> land.relay(0, 1, 1, 1, 2, 100, 0));
        check.due("no words came", 0, () -> land.words(1) + land.words(2));
        land.burn(0, 110);
        check.dueThrow("burned", UNSUPPORTED, () -> land.relay(0, 0, 1, 1, 2, 110, 0));
        check.due("before", 1, () -> land.relay(0, 0, 1, 1, 2, 109, 99999));
        check.due("it lies there", 0, () -> land.lies(1, 109));
    }

    private static void full(Check check) {
        RelayedTongues land = land('b', 'b', 'p');
        for (int i = 1; i < 30; i++) {
            int text = i;
            check.due("relay", text, () -> land.relay(0, 0, 1, 1, 2, 100, 0));
        }
        check.dueThrow("text 31", IllegalStateException.class, () -> land.relay(0, 0, 1, 1, 2, 100, 0));
        check.dueThrow("text 31, one translator", UNSUPPORTED, () -> land.relay(0, 0, 0, 1, 2, 100, 0));
    }

    private static void words(Check check) {
        RelayedTongues land = land('c', 'b', 'p');
        land.say(0, 0, 1);
        land.say(0, 1, 0);
        land.skill(0, 0, 3, 9);
        land.skill(1, 3, 2, 9);
        land.relay(0, 0, 1, 3, 2, 100, 0);
        check.due("the letters of the writer", "0b 1b", () -> line(land, 1, 0));
        check.due("the words of the tongue in between are kept", 2, () -> land.words(3));
        check.due("by the reader's way", 2, () -> land.senseOf(3, 0, 1));
        check.due("and those of the writer", 2, () -> land.words(2));
        check.due("read by their senses", 1, () -> land.senseOf(2, 0, 0));
        check.dueThrow("by the writer's way", BOUNDS, () -> land.senseOf(2, 0, 1));
        check.due("one text came", 2, () -> land.original(0, 0, 0));
        check.due("the parent", 0, () -> land.parentOf(1, 0));
        // The writer reads by what its own school teaches of the words in between.
        land.teach(1, 3, 0, 1, 200);
        land.teach(0, 3, 0, 0, 200);
        land.relay(0, 0, 1, 3, 2, 200, 0);
        check.due("a word for the sense that is taught", "2b 1h", () -> line(land, 3, 0));
        check.due("with it", 2, () -> land.senseOf(2, 2, 0));
    }

    private static void letters(Check check) {
        RelayedTongues land = land('l', 'b', 'v');
        land.say(0, 0, 0);
        land.count(0, 100);
        land.say(0, 1, 0);
        land.nought(0, false);
        land.skill(1, 1, 2, 9);
        // The seed 2 draws 8, an odd one: a slip; what would be left standing is.
        land.relay(0, 0, 1, 1, 2, 100, 2);
        check.due("the reader's losses", "0l 1001n -1v", () -> line(land, 1, 0));
        // The seed 0 draws 0 and an even one.
        land.relay(0, 0, 1, 1, 2, 100, 0);
        check.due("the reader's gap", "-1o 1001n -1v", () -> line(land, 2, 0));
        land.word(1, 1);
        land.word(1, 5);
        land.relay(0, 0, 1, 1, 2, 100, 2);
        check.due("the reader's slip", "1x 1001n -1v", () -> line(land, 3, 0));
        check.due("was written by its sense", 5, () -> land.senseOf(2, 1, 0));
        land.skill(0, 0, 1, 9);
        land.skill(1, 1, 2, 0);
        land.nought(0, true);
        land.nought(1, false);
        // The reader draws 0 and 68 for two words, the writer 88, and 17 with an even one.
        land.relay(0, 0, 1, 1, 2, 100, 0);
        check.due("the writer's own loss, but the reader's letter", "0h 1001n -1l", () -> line(land, 4, 0));
        land.word(1, 7);
        land.relay(0, 0, 1, 1, 2, 100, 0);
        check.due("the writer's gap", "0h 1001n -1o", () -> line(land, 5, 0));
        land.skill(0, 0, 1, 6);
        land.skill(1, 1, 2, 9);
        land.relay(0, 0, 1, 1, 2, 100, 1);
        check.due("the writer keeps the gap of the verse", "0h 1100= -1v", () -> line(land, 6, 0));

        RelayedTongues own = land('l', 'b', 'p');
        own.say(0, 1, 0);
        own.skill(0, 0, 2, 9);
        own.translate(0, 0, 2, 100, 0);
        own.skill(0, 2, 1, 9);
        // The word that was left standing is one of the tongue into which the writer renders.
        own.relay(1, 0, 1, 1, 0, 100, 0);
        check.due("its own word, by the reader's letter", "1l", () -> line(own, 2, 0));
    }

    private static void draws(Check check) {
        RelayedTongues land = land('b', 'b', 'p');
        land.say(0, 0, 0);
        land.sentence(0, 'p');
        land.say(0, 1, 0);
        land.skill(0, 0, 1, 9);
        // The seed 6 draws 26, 15 for the reader's words, then 42, 76 for the writer's: no slip with skill 0.
        land.relay(0, 0, 1, 1, 2, 100, 6);
        check.due("sentence 0", "0b", () -> line(land, 1, 0));
        check.due("sentence 1", "1b", () -> line(land, 1, 1));
        // The seed 3 draws 47, 7 and then 65, 12 with an even one: the reader has both sentences before the writer has one.
        land.relay(0, 0, 1, 1, 2, 100, 3);
        check.due("sentence 0", "0h", () -> line(land, 2, 0));
        check.due("sentence 1", "-1o", () -> line(land, 2, 1));
    }
}
