/** Promises 21 to 23: copy, bind, revise. */
public final class CopiesTest {
    private static final Class<IndexOutOfBoundsException> BOUNDS = IndexOutOfBoundsException.class;
    private static final Class<IllegalArgumentException> ARGUMENT = IllegalArgumentException.class;
    private static final Class<UnsupportedOperationException> UNSUPPORTED = UnsupportedOperationException.class;
    private static final Class<IllegalStateException> STATE = IllegalStateException.class;

    public static void main(String[] args) {
        Check check = new Check();
        copy(check);
        bind(check);
        reviseThrows(check);
        revise(check);
        reviseByEachLetter(check);
        full(check);
        check.end();
    }

    /** Words of three tongues with the senses 1 and 2, and an original of two sentences in tongue 0, of the year 100. */
    private static RelayedTongues land() {
        RelayedTongues land = new RelayedTongues();
        land.city();
        land.city();
        land.road(0, 1, 0, 2000);
        land.school('l');
        land.translator(0, 'w');
        for (int tongue = 0; tongue < 3; tongue++) {
            land.word(tongue, 1);
            land.word(tongue, 2);
        }
        land.original(0, 100, 0);
        land.sentence(0, 'p');
        land.say(0, 0, 0);
        land.count(0, 3);
        land.sentence(0, 'v');
        land.say(0, 1, 0);
        land.say(0, 0, 0);
        return land;
    }

    private static String line(RelayedTongues land, int text, int sentence) {
        StringBuilder told = new StringBuilder();
        for (int place = 0; place < land.signs(text, sentence); place++) {
            told.append(land.signAt(text, sentence, place)).append(land.letterAt(text, sentence, place)).append(' ');
        }
        return told.toString().trim();
    }

    private static void copy(Check check) {
        RelayedTongues land = land();
        check.dueThrow("text 1", BOUNDS, () -> land.copy(1, 2001, 0, 0));
        check.dueThrow("text -1", BOUNDS, () -> land.copy(-1, 100, 0, 0));
        check.dueThrow("year 2001", ARGUMENT, () -> land.copy(0, 2001, 0, 0));
        check.dueThrow("year -1", ARGUMENT, () -> land.copy(0, -1, 0, 0));
        check.dueThrow("rate 101", ARGUMENT, () -> land.copy(0, 99, 101, 0));
        check.dueThrow("rate -1", ARGUMENT, () -> land.copy(0, 100, -1, 0));
        check.dueThrow("seed 100000", ARGUMENT, () -> land.copy(0, 100, 0, 100000));
        check.dueThrow("seed -1", ARGUMENT, () -> land.copy(0, 100, 0, -1));
        check.dueThrow("too early", UNSUPPORTED, () -> land.copy(0, 99, 0, 0));
        check.due("copy", 1, () -> land.copy(0, 100, 0, 0));
        check.due("rate 0", "0= 1003=", () -> line(land, 1, 0));
        check.due("rate 0", "1= 0=", () -> line(land, 1, 1));
        check.due("copy", 2, () -> land.copy(0, 100, 100, 0));
        check.due("rate 100", "1m 1003=", () -> line(land, 2, 0));
        check.due("rate 100: 0 behind the last word", "0m 1m", () -> line(land, 2, 1));
        // The seed 1 draws 38, 58, 13: no draw for the number.
        check.due("copy", 3, () -> land.copy(0, 100, 38, 1));
        check.due("38 is not below 38", "0= 1003=", () -> line(land, 3, 0));
        check.due("13 is", "1= 1m", () -> line(land, 3, 1));
        check.due("copy", 4, () -> land.copy(0, 100, 39, 1));
        check.due("38 is below 39", "1m 1003=", () -> line(land, 4, 0));
        check.due("the parent", 1, () -> land.parentOf(4, 1));
        check.due("a copy of a copy", 5, () -> land.copy(4, 100, 0, 1));
        check.due("stays", "1= 1003=", () -> line(land, 5, 0));
        check.due("its parent", 41, () -> land.parentOf(5, 1));
        check.due("and where it comes from", 1, () -> land.comesFrom(5, 1));
        land.word(0, 9);
        land.original(0, 100, 0);
        land.sentence(6, 'p');
        land.say(6, 2, 0);
        land.skill(0, 0, 1, 9);
        land.translate(6, 0, 1, 100, 0);
        check.due("left standing", "102l", () -> line(land, 7, 0));
        land.copy(7, 100, 100, 0);
        check.due("copied as it stands", "102=", () -> line(land, 8, 0));
        land.skill(0, 0, 1, 0);
        land.translate(6, 0, 1, 100, 0);
        land.copy(9, 100, 100, 0);
        check.due("a gap too", "-1=", () -> line(land, 10, 0));
        land.carry(0, 1, 150);
        land.copy(0, 149, 0, 0);
        land.copy(0, 150, 0, 0);
        check.due("lies where it lay then", 0, () -> land.lies(11, 150));
        check.due("and now", 1, () -> land.lies(12, 150));
        land.burn(0, 160);
        check.dueThrow("burned", UNSUPPORTED, () -> land.copy(0, 160, 0, 0));
    }

    private static void bind(Check check) {
        RelayedTongues land = land();
        land.copy(0, 110, 100, 0);
        land.carry(1, 1, 120);
        check.dueThrow("text 2", BOUNDS, () -> land.bind(2, 0, 9, 110));
        check.dueThrow("other 2", BOUNDS, () -> land.bind(0, 2, 0, 110));
        check.dueThrow("other -1", BOUNDS, () -> land.bind(0, -1, 0, 110));
        check.dueThrow("at 9", ARGUMENT, () -> land.bind(0, 1, 9, 109));
        check.dueThrow("at -1", ARGUMENT, () -> land.bind(0, 1, -1, 110));
        check.dueThrow("year 2001", ARGUMENT, () -> land.bind(0, 1, 0, 2001));
        check.dueThrow("year -1", ARGUMENT, () -> land.bind(0, 1, 0, -1));
        check.dueThrow("the first one is later", UNSUPPORTED, () -> land.bind(1, 0, 0, 109));
        check.dueThrow("the second one is later", UNSUPPORTED, () -> land.bind(0, 1, 0, 109));
        check.due("bind", 2, () -> land.bind(0, 1, 1, 110));
        check.due("of the first one", "0= 1003=", () -> line(land, 2, 0));
        check.due("of the second one", "0= 1=", () -> line(land, 2, 1));
        check.due("parent of the first", 0, () -> land.parentOf(2, 0));
        check.due("parent of the second", 11, () -> land.parentOf(2, 1));
        check.due("where it comes from", 1, () -> land.comesFrom(2, 1));
        check.due("bind", 3, () -> land.bind(1, 0, 0, 125));
        check.due("all of the second one", 1, () -> land.parentOf(3, 1));
        check.due("lies where the first one lies", 1, () -> land.lies(3, 125));
        check.due("bind", 4, () -> land.bind(0, 1, 8, 125));
        check.due("all of the first one", 1, () -> land.parentOf(4, 1));
        check.due("bind", 5, () -> land.bind(1, 1, 1, 125));
        check.due("a text with itself", "1= 1003=", () -> line(land, 5, 0));
        land.original(0, 100, 0);
        check.due("bind", 7, () -> land.bind(6, 1, 1, 125));
        check.due("sentence 1 becomes sentence 0", 11, () -> land.parentOf(7, 0));
        check.due("and is the only one", 1, () -> land.sentences(7));
        land.original(1, 100, 0);
        check.dueThrow("unlike tongues", UNSUPPORTED, () -> land.bind(0, 8, 0, 125));
        land.burn(1, 130);
        check.dueThrow("the first one burned", UNSUPPORTED, () -> land.bind(1, 0, 0, 130));
        check.dueThrow("the second one burned", UNSUPPORTED, () -> land.bind(0, 1, 0, 130));
        check.due("before", 9, () -> land.bind(0, 1, 0, 129));
    }

    private static void reviseThrows(Check check) {
        RelayedTongues land = land();
        land.translate(0, 0, 1, 110, 0);
        check.dueThrow("text 2", BOUNDS, () -> land.revise(2, 0, 0, 2001, 0));
        check.dueThrow("other 2", BOUNDS, () -> land.revise(1, 2, 0, 120, 0));
        check.dueThrow("other -1", BOUNDS, () -> land.revise(1, -1, 0, 120, 0));
        check.dueThrow("translator 1", BOUNDS, () -> land.revise(1, 0, 1, 120, 0));
        check.dueThrow("year 2001", ARGUMENT, () -> land.revise(1, 1, 0, 2001, 0));
        check.dueThrow("year -1", ARGUMENT, () -> land.revise(1, 0, 0, -1, 0));
        check.dueThrow("seed 100000", ARGUMENT, () -> land.revise(1, 0, 0, 109, 100000));
        check.dueThrow("seed -1", ARGUMENT, () -> land.revise(1, 0, 0, 120, -1));
        check.dueThrow("one tongue", UNSUPPORTED, () -> land.revise(1, 1, 0, 120, 0));
        check.dueThrow("the text is later", UNSUPPORTED, () -> land.revise(1, 0, 0, 109, 0));
        check.dueThrow("the other is later", UNSUPPORTED, () -> land.revise(0, 1, 0, 109, 0));
        land.burn(0, 130);
        check.dueThrow("the other is burned", UNSUPPORTED, () -> land.revise(1, 0, 0, 130, 0));
        check.dueThrow("the text is burned", UNSUPPORTED, () -> land.revise(0, 1, 0, 130, 0));
        check.due("before", 2, () -> land.revise(1, 0, 0, 129, 0));
    }

    private static void revise(Check check) {
        RelayedTongues land = land();
        // Skill 0 and the seed 0: a gap first, and the rhyme of the verse.
        land.translate(0, 0, 1, 110, 0);
        check.due("marred", "-1o 1003=", () -> line(land, 1, 0));
        check.due("marred", "1h -1v", () -> line(land, 1, 1));
        land.skill(0, 0, 1, 9);
        land.skill(0, 2, 1, 9);
        land.skill(0, 0, 2, 9);
        land.translate(0, 0, 2, 111, 0);
        land.bind(2, 2, 0, 112);
        land.carry(1, 1, 115);
        check.due("revise", 4, () -> land.revise(1, 2, 0, 115, 0));
        check.due("anew", "0h 1003=", () -> line(land, 4, 0));
        check.due("anew", "1h 0h", () -> line(land, 4, 1));
        check.due("the parent is of the other one", 21, () -> land.parentOf(4, 1));
        check.due("where it comes from", 1, () -> land.comesFrom(4, 1));
        check.due("it lies where the revised one lies", 1, () -> land.lies(4, 115));
        check.dueThrow("a revision is no original", UNSUPPORTED, () -> land.isKnown(1, 4, 0, 115));
        check.dueThrow("nor to be added to", UNSUPPORTED, () -> land.say(4, 0, 0));
        check.due("revise", 5, () -> land.revise(4, 3, 0, 120, 0));
        check.due("nothing to mend: it stays", "1= 0=", () -> line(land, 5, 1));
        check.due("and comes from the revised one", 41, () -> land.parentOf(5, 1));
        land.original(2, 100, 0);
        land.sentence(6, 'p');
        land.sentence(6, 'p');
        check.due("revise", 7, () -> land.revise(1, 6, 0, 120, 0));
        check.due("the other has no such sentence: it stays", "-1= 1003=", () -> line(land, 7, 0));
        check.due("and comes from the revised one", 10, () -> land.parentOf(7, 0));
        // A volume with sentence 1 of a text, and then that of a marred copy of it.
        land.original(2, 100, 0);
        land.bind(8, 2, 1, 120);
        check.due("a volume with only sentence 1", 1, () -> land.sentences(9));
        land.copy(2, 120, 100, 0);
        land.bind(9, 10, 1, 121);
        check.due("two of the same sentence", 2, () -> land.sentences(11));
        check.due("revise", 12, () -> land.revise(1, 11, 0, 122, 0));
        check.due("by the first such one", 110, () -> land.parentOf(12, 1));
        check.due("anew", "1h 0h", () -> line(land, 12, 1));
        check.due("without one it stays", 10, () -> land.parentOf(12, 0));
        // The draws go on from sentence to sentence: seed 0 draws 0, 68 for the one sentence that is rendered.
        land.skill(0, 2, 1, 0);
        check.due("revise", 13, () -> land.revise(1, 2, 0, 122, 0));
        check.due("a gap again", "-1o 1003=", () -> line(land, 13, 0));
        check.due("88 is no slip; the rhyme is lost", "1h -1v", () -> line(land, 13, 1));
    }

    private static void reviseByEachLetter(Check check) {
        RelayedTongues land = land();
        land.school('b');
        land.translator(1, 's');
        land.skill(1, 0, 1, 9);
        land.original(0, 100, 0);
        land.sentence(1, 'p');
        land.word(0, 20);
        land.say(1, 2, 0);
        land.sentence(1, 'p');
        land.count(1, 100);
        land.sentence(1, 'p');
        land.say(1, 0, 0);
        land.nought(0, false);
        // Of the seed 9 the draws are 72, 55: l, n and h.
        land.translate(1, 0, 1, 110, 9);
        check.due("l", "102l", () -> line(land, 2, 0));
        check.due("n", "1001n", () -> line(land, 2, 1));
        check.due("h", "0h", () -> line(land, 2, 2));
        land.revise(2, 1, 1, 110, 0);
        check.due("l is rendered anew, to b", "2b", () -> line(land, 3, 0));
        check.due("n too", "1100=", () -> line(land, 3, 1));
        check.due("h stays", "0=", () -> line(land, 3, 2));
        check.due("with its parent", 22, () -> land.parentOf(3, 2));
        land.revise(3, 1, 1, 110, 0);
        check.due("b stays", 30, () -> land.parentOf(4, 0));
        land.copy(3, 110, 100, 0);
        check.due("m", "1m", () -> line(land, 5, 2));
        land.revise(5, 1, 1, 110, 0);
        check.due("m is rendered anew", 12, () -> land.parentOf(6, 2));
        check.due("a number of a copy stays", 51, () -> land.parentOf(6, 1));
        // Of the seed 2: 8 and an odd one, x; then 39.
        land.gloss(0, 1, 20, 2, 0);
        land.translate(1, 0, 1, 110, 2);
        check.due("x", "0x", () -> line(land, 7, 0));
        land.revise(7, 1, 1, 110, 0);
        check.due("x is rendered anew", "2h", () -> line(land, 8, 0));
        // Of the seed 0: o; from the gap a gap comes by '.', which is rendered anew too.
        land.translate(1, 0, 2, 110, 0);
        check.due("o", "-1o", () -> line(land, 9, 0));
        land.translate(9, 1, 1, 110, 9);
        check.due(".", "-1.", () -> line(land, 10, 0));
        land.revise(10, 1, 1, 110, 0);
        check.due(". is rendered anew", "2h", () -> line(land, 11, 0));
        check.due("g and h stay", 102, () -> land.parentOf(11, 2));
    }

    private static void full(Check check) {
        RelayedTongues land = land();
        land.original(1, 100, 0);
        for (int i = 2; i < 30; i++) {
            int text = i;
            check.due("copy", text, () -> land.copy(0, 100, 0, 0));
        }
        check.dueThrow("copy, too early", UNSUPPORTED, () -> land.copy(0, 99, 0, 0));
        check.dueThrow("copy", STATE, () -> land.copy(0, 100, 0, 0));
        check.dueThrow("bind, too early", UNSUPPORTED, () -> land.bind(0, 0, 0, 99));
        check.dueThrow("bind", STATE, () -> land.bind(0, 0, 0, 100));
        check.dueThrow("revise, too early", UNSUPPORTED, () -> land.revise(0, 1, 0, 99, 0));
        check.dueThrow("revise", STATE, () -> land.revise(0, 1, 0, 100, 0));
    }
}
