import java.util.function.Supplier;

/** All that a land answers, in one text: what a refused call may not change. */
final class Snapshot {
    private static final int[] YEARS = {0, 1, 49, 50, 51, 99, 100, 101, 150, 199, 200, 201, 999, 1000, 1001, 1999, 2000};

    private static final int[] FEW_YEARS = {0, 50, 100, 2000};

    private final RelayedTongues land;
    private final StringBuilder told = new StringBuilder();
    private final int schools;
    private final int translators;
    private final int cities;
    private final int texts;

    private Snapshot(RelayedTongues land) {
        this.land = land;
        // These calls are refused for their last argument where there is such a school, translator or city.
        schools = count(4, (i) -> land.translator(i, 'x'));
        translators = count(8, (i) -> land.skill(i, 0, 0, 0));
        cities = count(8, (i) -> land.original(0, -1, i));
        texts = count(30, (i) -> land.sentence(i, 'x'));
    }

    private interface Probe {
        int call(int number);
    }

    private static int count(int most, Probe probe) {
        for (int i = 0; i < most; i++) {
            try {
                probe.call(i);
            } catch (IllegalArgumentException e) {
                continue;
            } catch (IndexOutOfBoundsException e) {
                return i;
            }
        }
        return most;
    }

    /** By calls alone that change nothing. */
    static String of(RelayedTongues land) {
        Snapshot shot = new Snapshot(land);
        shot.words();
        shot.glossaries();
        shot.signs();
        shot.lying();
        shot.hands();
        shot.wholes();
        return shot.told.toString();
    }

    /** By calls that change the land too, each of them answered as the state tells: for what else does not show. */
    static String aftermath(RelayedTongues land) {
        Snapshot shot = new Snapshot(land);
        shot.tell("road", () -> land.road(0, 1, 2000, 2000));
        shot.tell("city", () -> land.city());
        shot.tell("school", () -> land.school('l'));
        shot.tell("translator", () -> land.translator(0, 's'));
        for (int i = 0; i < 4; i++) {
            int tongue = i;
            shot.tell("nought", () -> land.nought(tongue, true));
            shot.tell("word", () -> land.word(tongue, 0));
            for (int j = 0; j < 32; j++) {
                int translator = j / 4;
                int into = j % 4;
                shot.tell("skill", () -> land.skill(translator, tongue, into, 9));
            }
            for (int j = 0; j < 4; j++) {
                int school = j;
                shot.tell("teach", () -> land.teach(school, tongue, 0, 0, 2000));
                shot.tell("gloss", () -> land.gloss(school, tongue, 0, 0, 2000));
            }
        }
        for (int i = 0; i < shot.texts; i++) {
            int text = i;
            shot.tell("sentence", () -> land.sentence(text, 'p'));
            shot.tell("say", () -> land.say(text, 0, 0));
            shot.tell("count", () -> land.count(text, 0));
            shot.tell("signed", () -> land.signed(text));
            for (int j = 0; j < 8; j++) {
                int city = j;
                shot.tell("carry", () -> land.carry(text, city, 2000));
            }
            shot.tell("copy", () -> land.copy(text, 2000, 100, 0));
        }
        for (int i = 0; i < shot.texts; i++) {
            int text = i;
            shot.tell("translate", () -> land.translate(text, 0, 0, 2000, 7));
            shot.tell("burn", () -> land.burn(text, 2000));
        }
        return shot.told + of(land);
    }

    private void tell(String what, Supplier<Object> call) {
        Object answer;
        try {
            answer = call.get();
        } catch (RuntimeException e) {
            answer = e.getClass().getSimpleName();
        }
        told.append(what).append(' ').append(answer).append('\n');
    }

    private void words() {
        for (int i = 0; i < 4; i++) {
            int tongue = i;
            tell("words", () -> land.words(tongue));
            for (int j = 0; j < 40 * 4 && j / 4 < land.words(tongue); j++) {
                int word = j / 4;
                int index = j % 4;
                tell("senseOf " + tongue + " " + word, () -> land.senseOf(tongue, word, index));
            }
            for (int j = 0; j < 4 * 40 && j % 40 < land.words(tongue); j++) {
                int into = j / 40;
                int word = j % 40;
                tell("stands " + tongue + " " + word, () -> land.stands(tongue, word, into));
                tell("times", () -> land.times(tongue, word, into));
            }
        }
    }

    private void glossaries() {
        for (int i = 0; i < schools * 4 * 30; i++) {
            int school = i / 120;
            int tongue = i / 30 % 4;
            int sense = i % 30;
            for (int year : FEW_YEARS) {
                tell("glossed " + school + " " + tongue + " " + sense, () -> land.glossed(school, tongue, sense, year));
            }
        }
    }

    private void signs() {
        for (int i = 0; i < texts; i++) {
            int text = i;
            tell("sentences of " + text, () -> land.sentences(text));
            for (int j = 0; j < land.sentences(text); j++) {
                int sentence = j;
                tell("signs", () -> land.signs(text, sentence));
                tell("comesFrom", () -> land.comesFrom(text, sentence));
                tell("parentOf", () -> land.parentOf(text, sentence));
                for (int year : YEARS) {
                    tell("cities", () -> land.cities(text, sentence, year));
                }
                for (int k = 0; k < land.signs(text, sentence); k++) {
                    sign(text, sentence, k);
                }
            }
        }
    }

    private void sign(int text, int sentence, int place) {
        tell("sign", () -> land.signAt(text, sentence, place));
        tell("letter", () -> land.letterAt(text, sentence, place));
        tell("isRight", () -> land.isRight(text, sentence, place));
        tell("doubt", () -> land.doubt(text, sentence, place));
        tell("likely", () -> land.likely(text, sentence, place));
        tell("cost", () -> land.cost(text, sentence, place));
        for (int i = 0; i < translators; i++) {
            int translator = i;
            for (int year : YEARS) {
                tell("read by " + translator, () -> land.read(text, sentence, place, translator, year));
            }
        }
    }

    private void lying() {
        for (int i = 0; i < texts; i++) {
            int text = i;
            for (int year : YEARS) {
                tell("lies " + text, () -> land.lies(text, year));
                for (int j = 0; j < cities; j++) {
                    int city = j;
                    tell("isKnown " + city, () -> land.isKnown(city, text, 0, year));
                }
            }
        }
    }

    private void hands() {
        for (int i = 0; i < texts; i++) {
            int text = i;
            tell("hand of " + text, () -> land.hand(text));
            for (int j = 0; j < translators; j++) {
                int translator = j;
                tell("likeness", () -> land.likeness(text, translator));
            }
        }
    }

    private void wholes() {
        for (int i = 0; i < texts; i++) {
            int text = i;
            tell("losses of " + text, () -> land.losses(text));
            tell("checksum", () -> land.checksum(text));
            tell("meanDoubt", () -> land.meanDoubt(text));
        }
        tell("rightShare", () -> land.rightShare());
        tell("isSound", () -> land.isSound());
    }
}
