/** Promises 31 to 33 and 46 to 48: isRight, losses, doubt, checksum, rightShare, meanDoubt. */
public final class RightTest {
    private static final Class<IndexOutOfBoundsException> BOUNDS = IndexOutOfBoundsException.class;

    public static void main(String[] args) {
        Check check = new Check();
        right(check);
        standing(check);
        doubt(check);
        sums(check);
        check.end();
    }

    private static RelayedTongues land(char way) {
        RelayedTongues land = new RelayedTongues();
        land.city();
        land.school(way);
        land.translator(0, 'w');
        land.word(0, 1);
        land.sense(0, 0, 2);
        land.word(0, 3);
        land.original(0, 100, 0);
        land.sentence(0, 'v');
        return land;
    }

    private static void right(Check check) {
        RelayedTongues land = land('b');
        land.say(0, 0, 1);
        land.say(0, 1, 0);
        land.count(0, 100);
        land.count(0, 7);
        check.due("an original is right", true, () -> land.isRight(0, 0, 0));
        check.due("its numbers too", true, () -> land.isRight(0, 0, 2));
        check.due("no losses", 0, () -> land.losses(0));
        land.nought(0, false);
        // The seed 3 draws 47 and 7, then an odd one: x. The verse ends with a gap.
        land.word(1, 1);
        land.word(1, 3);
        land.translate(0, 0, 1, 100, 3);
        check.due("a word with another sense", false, () -> land.isRight(1, 0, 0));
        check.due("a slip", false, () -> land.isRight(1, 0, 1));
        check.due("a number without its noughts", false, () -> land.isRight(1, 0, 2));
        check.due("a gap", false, () -> land.isRight(1, 0, 3));
        check.due("losses", 4, () -> land.losses(1));
        land.sense(1, 0, 3);
        check.due("the word behind has the sense now", true, () -> land.isRight(1, 0, 1));
        land.sense(1, 0, 2);
        check.due("and that which is meant", true, () -> land.isRight(1, 0, 0));
        check.due("losses", 2, () -> land.losses(1));
        check.dueThrow("isRight: place 4", BOUNDS, () -> land.isRight(1, 0, 4));
        check.dueThrow("isRight: place -1", BOUNDS, () -> land.isRight(1, 0, -1));
        check.dueThrow("isRight: sentence 1", BOUNDS, () -> land.isRight(1, 1, 0));
        check.dueThrow("isRight: text 2", BOUNDS, () -> land.isRight(2, 0, 0));
        check.dueThrow("losses: text 2", BOUNDS, () -> land.losses(2));
        check.dueThrow("losses: text -1", BOUNDS, () -> land.losses(-1));
    }

    private static void standing(Check check) {
        RelayedTongues land = land('l');
        land.say(0, 0, 1);
        land.count(0, 2);
        land.skill(0, 0, 1, 9);
        land.translate(0, 0, 1, 100, 0);
        check.due("left standing", 100, () -> land.signAt(1, 0, 0));
        check.due("it is right", true, () -> land.isRight(1, 0, 0));
        check.due("the number is right", true, () -> land.isRight(1, 0, 1));
        check.due("no losses", 0, () -> land.losses(1));
        land.original(0, 100, 0);
        land.sentence(2, 'p');
        land.count(2, 0);
        check.due("0 is a number too", true, () -> land.isRight(2, 0, 0));
        check.due("share", 1.0f, () -> land.rightShare());
    }

    private static void doubt(Check check) {
        RelayedTongues land = land('b');
        land.say(0, 0, 0);
        land.count(0, 1);
        land.skill(0, 0, 1, 9);
        land.skill(0, 1, 0, 9);
        land.translate(0, 0, 1, 100, 0);
        check.due("b", 2, () -> land.doubt(1, 0, 0));
        check.due("= of a number", 0, () -> land.doubt(1, 0, 1));
        check.due("= of an original", 0, () -> land.doubt(0, 0, 0));
        land.translate(1, 0, 0, 100, 0);
        check.due("h, and b before", 3, () -> land.doubt(2, 0, 0));
        land.copy(2, 100, 100, 0);
        check.due("m, h and b", 6, () -> land.doubt(3, 0, 0));
        land.copy(3, 100, 0, 0);
        check.due("= of a copy, and all before", 6, () -> land.doubt(4, 0, 0));
        land.skill(0, 0, 1, 0);
        // The seed 0 draws 0 and an even one: a gap; the verse loses its end as well.
        land.translate(4, 0, 1, 100, 0);
        check.due("o", 9, () -> land.doubt(5, 0, 0));
        check.due("v", 3, () -> land.doubt(5, 0, 1));
        land.translate(5, 0, 0, 100, 0);
        check.due(". adds none", 9, () -> land.doubt(6, 0, 0));
        land.gloss(0, 1, 1, 0, 0);
        land.skill(0, 0, 1, 9);
        land.translate(0, 0, 1, 100, 0);
        check.due("g", 0, () -> land.doubt(7, 0, 0));
        check.due("mean doubt", 4.5, () -> land.meanDoubt(4) + land.meanDoubt(3) - land.meanDoubt(2));
        check.dueThrow("place 2", BOUNDS, () -> land.doubt(7, 0, 2));
        check.dueThrow("place -1", BOUNDS, () -> land.doubt(7, 0, -1));
        check.dueThrow("sentence 1", BOUNDS, () -> land.doubt(7, 1, 0));
        check.dueThrow("text 8", BOUNDS, () -> land.doubt(8, 0, 0));

        RelayedTongues calquing = land('c');
        calquing.say(0, 0, 0);
        calquing.skill(0, 0, 1, 9);
        calquing.translate(0, 0, 1, 100, 0);
        check.due("c", 2, () -> calquing.doubt(1, 0, 0));
        RelayedTongues leaving = land('l');
        leaving.say(0, 0, 0);
        leaving.count(0, 10);
        leaving.count(0, 10);
        leaving.nought(0, false);
        leaving.translate(0, 0, 1, 100, 2);
        check.due("l", 2, () -> leaving.doubt(1, 0, 0));
        check.due("n", 3, () -> leaving.doubt(1, 0, 1));
        leaving.word(1, 1);
        leaving.translate(0, 0, 1, 100, 2);
        check.due("x", 3, () -> leaving.doubt(2, 0, 0));
    }

    private static void sums(Check check) {
        RelayedTongues land = land('b');
        check.dueThrow("no signs", ArithmeticException.class, () -> land.rightShare());
        check.dueThrow("no signs in the text", ArithmeticException.class, () -> land.meanDoubt(0));
        check.dueThrow("meanDoubt: text 1", BOUNDS, () -> land.meanDoubt(1));
        check.dueThrow("meanDoubt: text -1", BOUNDS, () -> land.meanDoubt(-1));
        check.due("nothing to sum", 0, () -> land.checksum(0));
        check.dueThrow("checksum: text 1", BOUNDS, () -> land.checksum(1));
        check.dueThrow("checksum: text -1", BOUNDS, () -> land.checksum(-1));
        land.say(0, 1, 0);
        land.say(0, 1, 0);
        land.count(0, 5);
        // '=' is 61: 1 + 427 = 428; 31 * 428 + 428 = 13696; 31 * 13696 + 1005 + 427 = 426008.
        check.due("checksum", 426008, () -> land.checksum(0));
        land.translate(0, 0, 1, 100, 0);
        // -1 by 'o' (111), 0 by 'b' (98), -1 by 'v' (118).
        check.due("checksum of losses", ((776L * 31) + 686) * 31 + 825, () -> land.checksum(1));
        check.due("share", 4f / 6f, () -> land.rightShare());
        check.due("mean doubt", 8.0 / 3.0, () -> land.meanDoubt(1));
        check.due("no doubt", 0.0, () -> land.meanDoubt(0));

        RelayedTongues large = land('b');
        for (int sentence = 0; sentence < 8; sentence++) {
            for (int place = 0; place < 6; place++) {
                large.count(0, 999);
            }
            if (sentence < 7) {
                large.sentence(0, 'p');
            }
        }
        long sum = 0;
        for (int i = 0; i < 48; i++) {
            sum = 31 * sum + 1999 + 427;
        }
        check.due("a sum beyond a long", sum, () -> large.checksum(0));
    }
}
