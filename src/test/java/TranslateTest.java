/** Promise 19: translate, by each of the letters. */
public final class TranslateTest {
    private static final Class<IndexOutOfBoundsException> BOUNDS = IndexOutOfBoundsException.class;
    private static final Class<IllegalArgumentException> ARGUMENT = IllegalArgumentException.class;
    private static final Class<UnsupportedOperationException> UNSUPPORTED = UnsupportedOperationException.class;

    public static void main(String[] args) {
        Check check = new Check();
        throwing(check);
        full(check);
        found(check);
        coined(check);
        fullTongue(check);
        standing(check);
        slips(check);
        noughts(check);
        verses(check);
        places(check);
        check.end();
    }

    /** A text in tongue 0 with one sentence; school 0 of the given way with a translator 'w' and one 's'. */
    private static RelayedTongues land(char way, char frame) {
        RelayedTongues land = new RelayedTongues();
        land.city();
        land.school(way);
        land.translator(0, 'w');
        land.translator(0, 's');
        land.word(0, 1);
        land.sense(0, 0, 2);
        land.word(0, 7);
        land.original(0, 100, 0);
        land.sentence(0, frame);
        return land;
    }

    /** The signs of a sentence, each with its letter. */
    private static String line(RelayedTongues land, int text, int sentence) {
        StringBuilder told = new StringBuilder();
        for (int place = 0; place < land.signs(text, sentence); place++) {
            told.append(land.signAt(text, sentence, place)).append(land.letterAt(text, sentence, place)).append(' ');
        }
        return told.toString().trim();
    }

    private static void throwing(Check check) {
        RelayedTongues land = land('b', 'p');
        land.say(0, 0, 0);
        check.dueThrow("text 1", BOUNDS, () -> land.translate(1, 0, 1, 100, 0));
        check.dueThrow("text -1", BOUNDS, () -> land.translate(-1, 0, 1, 100, 0));
        check.dueThrow("translator 2", BOUNDS, () -> land.translate(0, 2, 0, 2001, 0));
        check.dueThrow("translator -1", BOUNDS, () -> land.translate(0, -1, 1, 100, 0));
        check.dueThrow("tongue 4", BOUNDS, () -> land.translate(0, 0, 4, 100, 0));
        check.dueThrow("tongue -1", BOUNDS, () -> land.translate(0, 0, -1, 100, 0));
        check.dueThrow("the text's own tongue", ARGUMENT, () -> land.translate(0, 0, 0, 99, 0));
        check.dueThrow("year 2001", ARGUMENT, () -> land.translate(0, 0, 1, 2001, 0));
        check.dueThrow("year -1", ARGUMENT, () -> land.translate(0, 0, 1, -1, 0));
        check.dueThrow("seed 100000", ARGUMENT, () -> land.translate(0, 0, 1, 99, 100000));
        check.dueThrow("seed -1", ARGUMENT, () -> land.translate(0, 0, 1, 100, -1));
        check.dueThrow("earlier than the text", UNSUPPORTED, () -> land.translate(0, 0, 1, 99, 0));
        check.due("no words came", 0, () -> land.words(1));
        check.due("in the year of the text, with the last seed", 1, () -> land.translate(0, 0, 1, 100, 99999));
        land.burn(0, 110);
        check.dueThrow("burned", UNSUPPORTED, () -> land.translate(0, 0, 1, 110, 0));
        check.due("before it burned", 2, () -> land.translate(0, 0, 1, 109, 0));
    }

    private static void full(Check check) {
        RelayedTongues land = land('b', 'p');
        land.skill(0, 0, 1, 9);
        land.say(0, 0, 0);
        for (int i = 1; i < 30; i++) {
            int text = i;
            check.due("translate", text, () -> land.translate(0, 0, 2, 100, text));
        }
        check.dueThrow("text 31", IllegalStateException.class, () -> land.translate(0, 0, 1, 100, 0));
        check.dueThrow("text 31, too early", UNSUPPORTED, () -> land.translate(0, 0, 1, 99, 0));
        check.due("no words came", 0, () -> land.words(1));
    }

    private static void found(Check check) {
        RelayedTongues land = land('b', 'p');
        land.say(0, 0, 0);
        land.say(0, 1, 0);
        land.word(1, 9);
        land.sense(1, 0, 1);
        land.word(1, 7);
        land.word(1, 1);
        land.word(1, 1);
        land.skill(0, 0, 1, 5);
        land.translate(0, 0, 1, 100, 1);
        check.due("skill 5: the lowest of which it is the first sense", "2h 1h", () -> line(land, 1, 0));
        land.skill(0, 0, 1, 4);
        land.translate(0, 0, 1, 100, 1);
        check.due("skill 4: the lowest that has it", "0h 1h", () -> line(land, 2, 0));
        land.sense(1, 1, 8);
        land.word(1, 8);
        land.sense(0, 1, 8);
        land.teach(0, 0, 1, 1, 150);
        land.gloss(0, 1, 1, 3, 120);
        land.skill(0, 0, 1, 9);
        land.translate(0, 0, 1, 119, 0);
        check.due("before the glossary has it", "2h 1h", () -> line(land, 3, 0));
        land.translate(0, 0, 1, 120, 0);
        check.due("the word of the glossary", "3g 1h", () -> line(land, 4, 0));
        land.translate(0, 0, 1, 150, 0);
        check.due("what is taught is read", "3g 4h", () -> line(land, 5, 0));
        land.sense(0, 0, 9);
        land.teach(0, 0, 0, 2, 200);
        land.translate(0, 0, 1, 200, 0);
        check.due("the sense 9 is the first one of the word 0", "0h 4h", () -> line(land, 6, 0));
        check.due("no new words", 5, () -> land.words(1));
        check.due("the parent", 0, () -> land.parentOf(6, 0));
        // A word that only has the sense behind another one, with a skill of 5 or more.
        land.word(2, 3);
        land.sense(2, 0, 1);
        land.skill(0, 0, 2, 9);
        land.translate(0, 0, 2, 100, 0);
        check.due("or, if there is none, the lowest that has it; else a new one", "0h 1b", () -> line(land, 7, 0));
    }

    private static void coined(Check check) {
        RelayedTongues borrowing = land('b', 'p');
        borrowing.say(0, 0, 1);
        borrowing.say(0, 0, 0);
        borrowing.skill(0, 0, 1, 9);
        borrowing.teach(0, 0, 0, 1, 500);
        borrowing.translate(0, 0, 1, 100, 0);
        check.due("a new word, then it is there", "0b 0h", () -> line(borrowing, 1, 0));
        check.due("with this sense", 1, () -> borrowing.senseOf(1, 0, 0));
        check.dueThrow("alone", BOUNDS, () -> borrowing.senseOf(1, 0, 1));
        borrowing.translate(0, 0, 1, 500, 0);
        check.due("another sense, another word", "1b 1h", () -> line(borrowing, 2, 0));
        check.due("with the sense that is taught", 2, () -> borrowing.senseOf(1, 1, 0));

        RelayedTongues calquing = land('c', 'p');
        calquing.say(0, 0, 1);
        calquing.skill(0, 0, 1, 9);
        calquing.teach(0, 0, 0, 1, 100);
        calquing.translate(0, 0, 1, 100, 0);
        check.due("a calque", "0c", () -> line(calquing, 1, 0));
        check.due("with all senses", 1, () -> calquing.senseOf(1, 0, 0));
        check.due("in their order", 2, () -> calquing.senseOf(1, 0, 1));
        check.due("words", 1, () -> calquing.words(1));

        RelayedTongues leaving = land('l', 'p');
        leaving.say(0, 1, 0);
        leaving.say(0, 0, 0);
        leaving.skill(0, 0, 1, 9);
        leaving.translate(0, 0, 1, 100, 0);
        check.due("left standing", "101l 100l", () -> line(leaving, 1, 0));
        check.due("no words", 0, () -> leaving.words(1));
    }

    private static void fullTongue(Check check) {
        for (char way : "bc".toCharArray()) {
            RelayedTongues land = land(way, 'p');
            land.say(0, 0, 0);
            land.say(0, 1, 0);
            land.skill(0, 0, 1, 9);
            for (int i = 0; i < 39; i++) {
                land.word(1, 29);
            }
            land.translate(0, 0, 1, 100, 0);
            check.due("the last new word, then none", "39" + way + " 101l", () -> line(land, 1, 0));
            land.translate(0, 0, 1, 100, 0);
            check.due("it is there", "39h 101l", () -> line(land, 2, 0));
            check.due("words", 40, () -> land.words(1));
        }
    }

    private static void standing(Check check) {
        RelayedTongues land = land('l', 'p');
        land.school('b');
        land.translator(1, 'w');
        land.say(0, 1, 0);
        land.say(0, 0, 0);
        land.count(0, 5);
        land.skill(0, 0, 1, 9);
        land.translate(0, 0, 1, 100, 0);
        check.due("left standing", "101l 100l 1005=", () -> line(land, 1, 0));
        land.skill(0, 1, 2, 9);
        land.word(2, 1);
        land.translate(1, 0, 2, 101, 0);
        check.due("left standing again, or found", "101l 0h 1005=", () -> line(land, 2, 0));
        land.skill(2, 1, 3, 9);
        land.translate(1, 2, 3, 101, 0);
        check.due("a word for one left standing", "0b 1b 1005=", () -> line(land, 3, 0));
        check.due("with its sense", 7, () -> land.senseOf(3, 0, 0));
        // Skill 0, and a seed that would slip by each draw: none is made.
        land.translate(1, 0, 0, 101, 0);
        check.due("its own words again", "1h 0h 1005=", () -> line(land, 4, 0));
        // The seed 2 draws 8 (a slip), an odd one, and 39: only the second sign draws.
        land.translate(2, 0, 0, 102, 2);
        check.due("a word of its own, and a slip", "1h 1x 1005=", () -> line(land, 5, 0));
        // The seed 3 draws 47, which is no slip, and then 7, which would be one.
        land.translate(2, 0, 0, 102, 3);
        check.due("no draw for a word of its own", "1h 0h 1005=", () -> line(land, 6, 0));
    }

    private static void slips(Check check) {
        RelayedTongues land = land('b', 'p');
        land.say(0, 1, 0);
        land.count(0, 9);
        land.say(0, 1, 0);
        land.word(1, 20);
        land.word(1, 7);
        // Draws of the seed 0: 0, an even one, 88.
        land.translate(0, 0, 1, 100, 0);
        check.due("left out", "-1o 1009= 1h", () -> line(land, 1, 0));
        // Of the seed 2: 8, an odd one, 39.
        land.translate(0, 0, 1, 100, 2);
        check.due("the word behind the last one is 0", "0x 1009= 1h", () -> line(land, 2, 0));
        land.word(1, 21);
        land.translate(0, 0, 1, 100, 2);
        check.due("the word behind", "2x 1009= 1h", () -> line(land, 3, 0));
        // Of the seed 6: 26, an odd one, 42; of the seed 154: 27, 52.
        land.translate(0, 0, 1, 100, 6);
        check.due("26 is below 27", "2x 1009= 1h", () -> line(land, 4, 0));
        land.translate(0, 0, 1, 100, 154);
        check.due("27 is not", "1h 1009= 1h", () -> line(land, 5, 0));
        land.skill(0, 0, 1, 1);
        land.translate(0, 0, 1, 100, 6);
        check.due("with skill 1 it is below 24, and 15 is too", "1h 1009= -1o", () -> line(land, 6, 0));
        land.skill(0, 0, 1, 9);
        land.translate(0, 0, 1, 100, 0);
        check.due("with skill 9 nothing slips", "1h 1009= 1h", () -> line(land, 7, 0));
        // By x a new word is made, and the word behind it is 0, as it is the last one now.
        land.translate(0, 0, 2, 100, 2);
        check.due("a new word by x", "0x 1009= 0h", () -> line(land, 8, 0));
        check.due("was made", 1, () -> land.words(2));
        // By o none is made; then the second sign makes it.
        land.translate(0, 0, 3, 100, 0);
        check.due("no new word by o", "-1o 1009= 0b", () -> line(land, 9, 0));
        check.due("but by b", 1, () -> land.words(3));
        // A gap stays, and takes no draw: the seed 1 draws 38.
        land.translate(9, 0, 0, 101, 1);
        check.due("a gap stays", "-1. 1009= 1h", () -> line(land, 10, 0));

        RelayedTongues leaving = land('l', 'p');
        leaving.say(0, 1, 0);
        leaving.translate(0, 0, 1, 100, 2);
        check.due("by x what would be left standing is", "101l", () -> line(leaving, 1, 0));
        leaving.gloss(0, 0, 7, 1, 0);
        leaving.word(1, 7);
        leaving.word(1, 0);
        leaving.gloss(0, 1, 7, 0, 0);
        leaving.translate(0, 0, 1, 100, 2);
        check.due("by x the word behind that of the glossary", "1x", () -> line(leaving, 2, 0));
    }

    private static void noughts(Check check) {
        RelayedTongues land = land('b', 'p');
        land.count(0, 205);
        land.count(0, 0);
        land.count(0, 100);
        land.count(0, 999);
        land.count(0, 10);
        land.translate(0, 0, 1, 100, 0);
        check.due("both with a nought", "1205= 1000= 1100= 1999= 1010=", () -> line(land, 1, 0));
        land.nought(0, false);
        land.translate(0, 0, 1, 100, 0);
        check.due("from one without", "1025n 1000= 1001n 1999= 1001n", () -> line(land, 2, 0));
        land.skill(0, 0, 1, 4);
        land.translate(0, 0, 1, 100, 0);
        check.due("skill 4", "1025n 1000= 1001n 1999= 1001n", () -> line(land, 3, 0));
        land.skill(0, 0, 1, 5);
        land.translate(0, 0, 1, 100, 0);
        check.due("skill 5", "1205= 1000= 1100= 1999= 1010=", () -> line(land, 4, 0));
        land.nought(1, false);
        land.skill(0, 0, 1, 0);
        land.translate(0, 0, 1, 100, 0);
        check.due("both without", "1205= 1000= 1100= 1999= 1010=", () -> line(land, 5, 0));
        land.nought(0, true);
        land.translate(0, 0, 1, 100, 0);
        check.due("into one without", "1205= 1000= 1100= 1999= 1010=", () -> line(land, 6, 0));
    }

    private static void verses(Check check) {
        RelayedTongues land = land('b', 'v');
        land.count(0, 3);
        land.say(0, 0, 0);
        land.sentence(0, 'v');
        land.count(0, 100);
        land.sentence(0, 'v');
        land.sentence(0, 'p');
        land.say(0, 0, 0);
        land.skill(0, 0, 1, 6);
        land.translate(0, 0, 1, 100, 1);
        check.due("skill 6: the last sign is lost", "1003= -1v", () -> line(land, 1, 0));
        check.due("a number too", "-1v", () -> line(land, 1, 1));
        check.due("nothing to lose", "", () -> line(land, 1, 2));
        check.due("not in prose", "0b", () -> line(land, 1, 3));
        land.skill(0, 0, 1, 7);
        land.translate(0, 0, 1, 100, 1);
        check.due("skill 7: it is not", "1003= 0h", () -> line(land, 2, 0));
        check.due("nor a number", "1100=", () -> line(land, 2, 1));
        land.translate(0, 1, 1, 100, 1);
        check.due("nor by sense", "1003= 0h", () -> line(land, 3, 0));
        land.translate(1, 1, 0, 100, 1);
        check.due("a gap stays", "1003= -1.", () -> line(land, 4, 0));
        land.translate(1, 0, 0, 100, 1);
        check.due("a gap stays, word by word too", "1003= -1.", () -> line(land, 5, 0));
        check.due("the verse stays one", "-1.", () -> line(land, 5, 1));
        land.translate(2, 0, 3, 100, 1);
        check.due("the frame goes on", "1003= -1v", () -> line(land, 6, 0));

        RelayedTongues leaving = land('l', 'v');
        leaving.say(0, 0, 0);
        leaving.skill(0, 0, 1, 9);
        leaving.translate(0, 0, 1, 100, 0);
        leaving.translate(1, 0, 0, 100, 0);
        check.due("a word left standing is lost too", "-1v", () -> line(leaving, 2, 0));
    }

    private static void places(Check check) {
        RelayedTongues land = land('b', 'p');
        land.city();
        land.road(0, 1, 0, 2000);
        land.carry(0, 1, 200);
        land.translate(0, 0, 1, 199, 0);
        check.due("where it lay then", 0, () -> land.lies(1, 300));
        land.translate(0, 0, 1, 200, 0);
        check.due("where it lay then", 1, () -> land.lies(2, 300));
        check.dueThrow("not made yet", java.util.NoSuchElementException.class, () -> land.lies(2, 199));
    }
}
