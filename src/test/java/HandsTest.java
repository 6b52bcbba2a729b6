import java.util.NoSuchElementException;

/** Promises 39 to 41: signed, likeness, hand. */
public final class HandsTest {
    private static final Class<IndexOutOfBoundsException> BOUNDS = IndexOutOfBoundsException.class;
    private static final Class<UnsupportedOperationException> UNSUPPORTED = UnsupportedOperationException.class;
    private static final Class<NoSuchElementException> NONE = NoSuchElementException.class;

    public static void main(String[] args) {
        Check check = new Check();
        signed(check);
        signedRevision(check);
        likeness(check);
        leftStanding(check);
        hand(check);
        check.end();
    }

    /** Words of tongue 0 with the senses 0, 5, 6; those of tongue 1 too, in this order. */
    private static RelayedTongues land() {
        RelayedTongues land = new RelayedTongues();
        land.city();
        land.school('l');
        for (int tongue = 0; tongue < 2; tongue++) {
            land.word(tongue, 0);
            land.word(tongue, 5);
            land.word(tongue, 6);
        }
        land.sense(1, 2, 1);
        return land;
    }

    private static void teachAll(RelayedTongues land, int translator) {
        for (int from = 0; from < 4; from++) {
            for (int into = 0; into < 4; into++) {
                if (from != into) {
                    land.skill(translator, from, into, 9);
                }
            }
        }
    }

    /** A new original in tongue 0 of the words, with a sentence each. */
    private static int text(RelayedTongues land, int... words) {
        int text = land.original(0, 100, 0);
        land.sentence(text, 'p');
        for (int word : words) {
            land.say(text, word, 0);
        }
        return text;
    }

    private static void signed(Check check) {
        RelayedTongues land = land();
        land.translator(0, 'w');
        land.translator(0, 'w');
        text(land, 0);
        land.translate(0, 0, 1, 100, 0);
        land.relay(0, 0, 1, 2, 1, 100, 0);
        land.relay(0, 1, 0, 2, 1, 100, 0);
        land.copy(1, 100, 0, 0);
        land.bind(1, 2, 0, 100);
        land.revise(1, 0, 0, 100, 0);
        land.revise(1, 0, 1, 100, 0);
        check.dueThrow("text 8", BOUNDS, () -> land.signed(8));
        check.dueThrow("text -1", BOUNDS, () -> land.signed(-1));
        check.dueThrow("an original", UNSUPPORTED, () -> land.signed(0));
        check.dueThrow("a copy", UNSUPPORTED, () -> land.signed(4));
        check.dueThrow("a volume", UNSUPPORTED, () -> land.signed(5));
        check.due("a translation", 1, () -> land.signed(1));
        check.dueThrow("again", UNSUPPORTED, () -> land.signed(1));
        check.due("a relay, for its writer", 1, () -> land.signed(2));
        check.due("the other one", 2, () -> land.signed(3));
        check.due("a revision, for its translator", 3, () -> land.signed(6));
        check.dueThrow("a revision again", UNSUPPORTED, () -> land.signed(6));
        check.due("a revision of what another one translated", 2, () -> land.signed(7));
    }

    /** A revision that kept every sentence counts for its translator too; a copy of it has none. */
    private static void signedRevision(Check check) {
        RelayedTongues land = land();
        land.translator(0, 'w');
        land.translator(0, 'w');
        teachAll(land, 0);
        int source = text(land, 0, 1);
        int first = land.translate(source, 0, 1, 100, 0);
        int kept = land.revise(first, source, 1, 100, 0);
        int copy = land.copy(kept, 100, 0, 0);
        check.due("nothing was rendered anew", 10 * first, () -> land.parentOf(kept, 0));
        check.dueThrow("a copy of a revision", UNSUPPORTED, () -> land.signed(copy));
        check.due("not yet", 0, () -> land.likeness(first, 1));
        check.due("signed", 1, () -> land.signed(kept));
        check.due("its words count for the reviser", 1000, () -> land.likeness(first, 1));
        check.due("not for who translated first", 0, () -> land.likeness(first, 0));
        check.due("the hand", 1, () -> land.hand(copy));
        check.due("itself aside", 0, () -> land.likeness(kept, 1));
    }

    private static void likeness(Check check) {
        RelayedTongues land = land();
        land.translator(0, 'w');
        land.translator(0, 'w');
        teachAll(land, 0);
        teachAll(land, 1);
        int source = text(land, 0, 1, 2);
        int twice = text(land, 0, 0, 1);
        int none = text(land, 2);
        int first = land.translate(source, 0, 1, 100, 0);
        int second = land.translate(text(land, 0, 2), 1, 1, 100, 0);
        int third = land.translate(twice, 0, 1, 100, 0);
        int empty = land.translate(none, 0, 1, 100, 0);
        check.due("nothing is signed", 0, () -> land.likeness(first, 0));
        land.signed(first);
        check.due("itself aside", 0, () -> land.likeness(first, 0));
        check.due("all three", 1000, () -> land.likeness(third, 0));
        check.due("the other one signed nothing", 0, () -> land.likeness(third, 1));
        land.signed(second);
        check.due("each place counts: 2 of 3", 666, () -> land.likeness(third, 1));
        check.due("1 of 2", 500, () -> land.likeness(first, 1));
        check.due("another tongue", 0, () -> land.likeness(source, 0));
        land.signed(empty);
        check.dueThrow("no particles", NONE, () -> land.likeness(empty, 0));
        check.due("what is signed need not have any", 0, () -> land.likeness(first, 0));
        land.signed(third);
        check.due("another one of its own", 1000, () -> land.likeness(first, 0));
        check.dueThrow("text 8", BOUNDS, () -> land.likeness(8, 0));
        check.dueThrow("text -1", BOUNDS, () -> land.likeness(-1, 0));
        check.dueThrow("translator 2", BOUNDS, () -> land.likeness(empty, 2));
        check.dueThrow("translator -1", BOUNDS, () -> land.likeness(first, -1));
        int standing = land.translate(source, 0, 2, 100, 0);
        check.due("left standing", 100, () -> land.signAt(standing, 0, 0));
        check.dueThrow("words left standing are no particles", NONE, () -> land.likeness(standing, 0));
        land.sense(0, 2, 3);
        check.dueThrow("the first sense counts", NONE, () -> land.likeness(none, 0));
    }

    /** Words left standing in what is signed are no words of its tongue, whatever their numbers. */
    private static void leftStanding(Check check) {
        RelayedTongues land = land();
        for (int i = 3; i < 40; i++) {
            land.word(1, 2);
        }
        land.word(0, 29);
        land.translator(0, 'w');
        teachAll(land, 0);
        int source = text(land, 3);
        int asked = land.original(1, 100, 0);
        land.sentence(asked, 'p');
        for (int word : new int[] {39, 36, 3}) {
            land.say(asked, word, 0);
        }
        int standing = land.translate(source, 0, 1, 100, 0);
        check.due("left standing", 103, () -> land.signAt(standing, 0, 0));
        land.signed(standing);
        check.due("likeness", 0, () -> land.likeness(asked, 0));
    }

    private static void hand(Check check) {
        RelayedTongues land = land();
        int source = text(land, 0, 1);
        int none = text(land, 2);
        check.dueThrow("no translators", NONE, () -> land.hand(source));
        check.dueThrow("text 2", BOUNDS, () -> land.hand(2));
        check.dueThrow("text -1", BOUNDS, () -> land.hand(-1));
        for (int i = 0; i < 3; i++) {
            land.translator(0, 'w');
            teachAll(land, i);
        }
        check.dueThrow("no particles", NONE, () -> land.hand(none));
        check.due("none is like it: the lowest", 0, () -> land.hand(source));
        int asked = land.translate(source, 0, 1, 100, 0);
        int half = land.translate(text(land, 1), 1, 1, 100, 0);
        int whole = land.translate(source, 2, 1, 100, 0);
        land.signed(asked);
        check.due("itself aside: the lowest", 0, () -> land.hand(asked));
        land.signed(half);
        check.due("a half", 1, () -> land.hand(asked));
        land.signed(whole);
        check.due("a whole", 2, () -> land.hand(asked));
        int again = land.translate(source, 1, 1, 100, 0);
        land.signed(again);
        check.due("two wholes: the lower one", 1, () -> land.hand(asked));
    }
}
