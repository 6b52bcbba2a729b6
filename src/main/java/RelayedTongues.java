import java.util.ArrayList;
import java.util.NoSuchElementException;

/** Books that came through several tongues. README.md tells how to use it. */
public final class RelayedTongues {
    private static final int TONGUES = 4;
    private static final int WORDS = 40;
    private static final int SENSES = 30;
    private static final int SENSES_OF_WORD = 3;
    private static final int FIELD = 6;
    private static final int FIELD_BITS = 63;
    private static final int PARTICLE_SENSES = 6;
    private static final int TEXTS = 30;
    private static final int SENTENCES = 8;
    private static final int SIGNS = 6;
    private static final int SCHOOLS = 4;
    private static final int TRANSLATORS = 8;
    private static final int CITIES = 8;
    private static final int ROADS = 20;
    private static final int CALLS = 512;
    private static final int LAST_YEAR = 2000;
    private static final int LAST_SEED = 99999;
    private static final int LAST_RATE = 100;
    private static final int LAST_NUMBER = 999;
    private static final int BEST_SKILL = 9;
    private static final int RHYMING_SKILL = 7;
    private static final int READY_SKILL = 5;
    private static final int DIGITS = 3;
    private static final int NONE = -1;
    private static final int GAP = -1;
    private static final int STANDING = 100;
    private static final int NUMBERS = 1000;
    private static final int NEVER = 1000000;

    private final Tongue[] tongues = new Tongue[TONGUES];
    private final ArrayList<Road> roads = new ArrayList<>();
    private final ArrayList<Text> texts = new ArrayList<>();
    private final ArrayList<School> schools = new ArrayList<>();
    private final ArrayList<Translator> translators = new ArrayList<>();
    // Rows for one call's counting, made once: the calls of a run share one room.
    private final int[] tally = new int[STANDING * TONGUES + WORDS];
    private final int[] witnesses = new int[TEXTS * SENTENCES];
    private int cityCount;

    public RelayedTongues() {
        for (int i = 0; i < tongues.length; i++) {
            tongues[i] = new Tongue();
        }
    }

    // ---- words ----

    public int word(int tongue, int sense) throws IndexOutOfBoundsException, IllegalArgumentException, IllegalStateException {
        if (!isTongue(tongue)) {
            throw new IndexOutOfBoundsException("no such tongue");
        }
        if (!isSense(sense)) {
            throw new IllegalArgumentException("a sense is 0 to 29");
        }
        int added = tongues[tongue].addWord(sense);
        if (added == NONE) {
            throw new IllegalStateException("the tongue has 40 words");
        }
        return added;
    }

    public int sense(int tongue, int word, int sense) throws IndexOutOfBoundsException, IllegalArgumentException, UnsupportedOperationException, IllegalStateException {
        if (!isTongue(tongue) || !tongues[tongue].has(word)) {
            throw new IndexOutOfBoundsException("no such tongue or word");
        }
        if (!isSense(sense)) {
            throw new IllegalArgumentException("a sense is 0 to 29");
        }
        Tongue vocabulary = tongues[tongue];
        if (hasBit(vocabulary.maskOf(word), sense)) {
            throw new UnsupportedOperationException("the word has this sense");
        }
        if (vocabulary.senseCount(word) >= SENSES_OF_WORD) {
            throw new IllegalStateException("the word has 3 senses");
        }
        vocabulary.addSense(word, sense);
        return vocabulary.senseCount(word);
    }

    public int senseOf(int tongue, int word, int index) throws IndexOutOfBoundsException {
        int found = isTongue(tongue) ? tongues[tongue].senseAt(word, index) : NONE;
        if (found == NONE) {
            throw new IndexOutOfBoundsException("no such tongue, word or sense of it");
        }
        return found;
    }

    public int words(int tongue) throws IndexOutOfBoundsException {
        if (!isTongue(tongue)) {
            throw new IndexOutOfBoundsException("no such tongue");
        }
        return tongues[tongue].size;
    }

    public boolean nought(int tongue, boolean is) throws IndexOutOfBoundsException {
        if (!isTongue(tongue)) {
            throw new IndexOutOfBoundsException("no such tongue");
        }
        boolean before = tongues[tongue].hasNought;
        tongues[tongue].hasNought = is;
        return before;
    }

    // ---- cities and roads ----

    public int city() throws IllegalStateException {
        if (cityCount >= CITIES) {
            throw new IllegalStateException("there are 8 cities");
        }
        cityCount++;
        return cityCount - 1;
    }

    public int road(int city, int other, int from, int to) throws IndexOutOfBoundsException, IllegalArgumentException, IllegalStateException {
        if (!isCity(city) || !isCity(other)) {
            throw new IndexOutOfBoundsException("no such city");
        }
        if (city == other || !isYear(from) || !isYear(to) || to < from) {
            throw new IllegalArgumentException("a road joins two cities, from a year to one not earlier");
        }
        if (roads.size() >= ROADS) {
            throw new IllegalStateException("there are 20 roads");
        }
        roads.add(new Road(city, other, from, to));
        return roads.size();
    }

    // ---- originals ----

    public int original(int tongue, int year, int city) throws IndexOutOfBoundsException, IllegalArgumentException, IllegalStateException {
        if (!isTongue(tongue) || !isCity(city)) {
            throw new IndexOutOfBoundsException("no such tongue or city");
        }
        if (!isYear(year)) {
            throw new IllegalArgumentException("a year is 0 to 2000");
        }
        if (texts.size() >= TEXTS) {
            throw new IllegalStateException("there are 30 texts");
        }
        return addText(new Text(true, tongue, year, city));
    }

    public int sentence(int text, char frame) throws IndexOutOfBoundsException, IllegalArgumentException, UnsupportedOperationException, IllegalStateException {
        Text told = textAt(text);
        if (told == null) {
            throw new IndexOutOfBoundsException("no such text");
        }
        if (frame != 'p' && frame != 'v') {
            throw new IllegalArgumentException("a frame is p or v");
        }
        if (!told.isOriginal || hasOffspring(text)) {
            throw new UnsupportedOperationException("no original, or something came from it");
        }
        int number = told.sentences.size();
        if (number >= SENTENCES) {
            throw new IllegalStateException("the text has 8 sentences");
        }
        told.sentences.add(new Sentence(frame == 'v', text, number, NONE, NONE));
        return number;
    }

    public int say(int text, int word, int index) throws IndexOutOfBoundsException, UnsupportedOperationException, IllegalStateException {
        Text told = textAt(text);
        int meant = told == null ? NONE : senseAt(told.tongue, word, index);
        if (told == null || meant == NONE) {
            throw new IndexOutOfBoundsException("no such text, word or sense of it");
        }
        Sentence last = openSentence(told, text);
        if (last == null) {
            throw new UnsupportedOperationException("no original with a sentence, or something came from it");
        }
        if (last.isFull()) {
            throw new IllegalStateException("the sentence has 6 signs");
        }
        last.put(word, '=', meant);
        return last.size;
    }

    public int count(int text, int number) throws IndexOutOfBoundsException, IllegalArgumentException, UnsupportedOperationException, IllegalStateException {
        Text told = textAt(text);
        if (told == null) {
            throw new IndexOutOfBoundsException("no such text");
        }
        if (number < 0 || number > LAST_NUMBER) {
            throw new IllegalArgumentException("a number is 0 to 999");
        }
        Sentence last = openSentence(told, text);
        if (last == null) {
            throw new UnsupportedOperationException("no original with a sentence, or something came from it");
        }
        if (last.isFull()) {
            throw new IllegalStateException("the sentence has 6 signs");
        }
        last.put(NUMBERS + number, '=', NONE);
        return last.size;
    }

    // ---- schools and translators ----

    public int school(char way) throws IllegalArgumentException, IllegalStateException {
        if (way != 'b' && way != 'c' && way != 'l') {
            throw new IllegalArgumentException("a way is b, c or l");
        }
        if (schools.size() >= SCHOOLS) {
            throw new IllegalStateException("there are 4 schools");
        }
        schools.add(new School(way));
        return schools.size() - 1;
    }

    public int gloss(int school, int tongue, int sense, int word, int year) throws IndexOutOfBoundsException, IllegalArgumentException, UnsupportedOperationException {
        School teller = schoolAt(school);
        if (teller == null || !isTongue(tongue) || !tongues[tongue].has(word)) {
            throw new IndexOutOfBoundsException("no such school, tongue or word");
        }
        if (!isSense(sense) || !isYear(year)) {
            throw new IllegalArgumentException("a sense is 0 to 29, a year 0 to 2000");
        }
        if (!hasBit(tongues[tongue].maskOf(word), sense)) {
            throw new UnsupportedOperationException("the word has not this sense");
        }
        int before = teller.glossary.countingIn(tongue, sense, year);
        teller.glossary.tell(tongue, sense, year, word);
        return before;
    }

    public int teach(int school, int tongue, int word, int index, int year) throws IndexOutOfBoundsException, IllegalArgumentException {
        School teller = schoolAt(school);
        if (teller == null || !isTongue(tongue) || senseAt(tongue, word, index) == NONE) {
            throw new IndexOutOfBoundsException("no such school, tongue, word or sense of it");
        }
        if (!isYear(year)) {
            throw new IllegalArgumentException("a year is 0 to 2000");
        }
        int before = teller.teaching.countingIn(tongue, word, year);
        teller.teaching.tell(tongue, word, year, index);
        return before;
    }

    public int glossed(int school, int tongue, int sense, int year) throws IndexOutOfBoundsException, IllegalArgumentException, NoSuchElementException {
        School teller = schoolAt(school);
        if (teller == null || !isTongue(tongue)) {
            throw new IndexOutOfBoundsException("no such school or tongue");
        }
        if (!isSense(sense) || !isYear(year)) {
            throw new IllegalArgumentException("a sense is 0 to 29, a year 0 to 2000");
        }
        int found = teller.glossary.countingIn(tongue, sense, year);
        if (found == NONE) {
            throw new NoSuchElementException("the glossary has no word for it then");
        }
        return found;
    }

    public int translator(int school, char habit) throws IndexOutOfBoundsException, IllegalArgumentException, IllegalStateException {
        School home = schoolAt(school);
        if (home == null) {
            throw new IndexOutOfBoundsException("no such school");
        }
        if (habit != 'w' && habit != 's') {
            throw new IllegalArgumentException("a habit is w or s");
        }
        if (translators.size() >= TRANSLATORS) {
            throw new IllegalStateException("there are 8 translators");
        }
        translators.add(new Translator(home, habit == 's'));
        return translators.size() - 1;
    }

    public int skill(int translator, int from, int into, int skill) throws IndexOutOfBoundsException, IllegalArgumentException {
        Translator learner = translatorAt(translator);
        if (learner == null || !isTongue(from) || !isTongue(into)) {
            throw new IndexOutOfBoundsException("no such translator or tongue");
        }
        if (from == into || skill < 0 || skill > BEST_SKILL) {
            throw new IllegalArgumentException("two tongues, and a skill 0 to 9");
        }
        int before = learner.skillFor(from, into);
        learner.learn(from, into, skill);
        return before;
    }

    // ---- texts that come from others ----

    public int translate(int text, int translator, int tongue, int year, int seed) throws IndexOutOfBoundsException, IllegalArgumentException, UnsupportedOperationException, IllegalStateException {
        Text source = textAt(text);
        Translator writer = translatorAt(translator);
        if (source == null || writer == null || !isTongue(tongue)) {
            throw new IndexOutOfBoundsException("no such text, translator or tongue");
        }
        if (tongue == source.tongue || !isYear(year) || !isSeed(seed)) {
            throw new IllegalArgumentException("another tongue, a year 0 to 2000, a seed 0 to 99999");
        }
        if (source.cityIn(year) == NONE) {
            throw new UnsupportedOperationException("the text is later, or was burned");
        }
        if (texts.size() >= TEXTS) {
            throw new IllegalStateException("there are 30 texts");
        }
        Text made = new Text(false, tongue, year, source.cityIn(year));
        made.translator = translator;
        Rendering pass = new Rendering(writer, source.tongue, tongue, year, new Draws(seed));
        for (int i = 0; i < source.sentences.size(); i++) {
            made.sentences.add(rendered(source.sentences.get(i), text, i, pass));
        }
        return addText(made);
    }

    public int relay(int text, int reader, int writer, int through, int tongue, int year, int seed) throws IndexOutOfBoundsException, IllegalArgumentException, UnsupportedOperationException, IllegalStateException {
        Text source = textAt(text);
        Translator first = translatorAt(reader);
        Translator second = translatorAt(writer);
        if (source == null || first == null || second == null || !isTongue(through) || !isTongue(tongue)) {
            throw new IndexOutOfBoundsException("no such text, translator or tongue");
        }
        if (through == tongue || through == source.tongue || tongue == source.tongue || !isYear(year) || !isSeed(seed)) {
            throw new IllegalArgumentException("three tongues, a year 0 to 2000, a seed 0 to 99999");
        }
        if (source.cityIn(year) == NONE || reader == writer) {
            throw new UnsupportedOperationException("the text is later, or was burned, or one translator for both");
        }
        if (texts.size() >= TEXTS) {
            throw new IllegalStateException("there are 30 texts");
        }
        Text made = new Text(false, tongue, year, source.cityIn(year));
        made.translator = writer;
        made.isRelay = true;
        Draws draws = new Draws(seed);
        Rendering reading = new Rendering(first, source.tongue, through, year, draws);
        Rendering writing = new Rendering(second, through, tongue, year, draws);
        // The writer begins when the reader has ended: they share the draws and the words.
        ArrayList<Sentence> between = new ArrayList<>();
        for (int i = 0; i < source.sentences.size(); i++) {
            between.add(rendered(source.sentences.get(i), text, i, reading));
        }
        for (int i = 0; i < between.size(); i++) {
            Sentence written = rendered(between.get(i), text, i, writing);
            written.takeLossesOf(between.get(i));
            made.sentences.add(written);
        }
        return addText(made);
    }

    public int copy(int text, int year, int rate, int seed) throws IndexOutOfBoundsException, IllegalArgumentException, UnsupportedOperationException, IllegalStateException {
        Text source = textAt(text);
        if (source == null) {
            throw new IndexOutOfBoundsException("no such text");
        }
        if (!isYear(year) || rate < 0 || rate > LAST_RATE || !isSeed(seed)) {
            throw new IllegalArgumentException("a year 0 to 2000, a rate 0 to 100, a seed 0 to 99999");
        }
        if (source.cityIn(year) == NONE) {
            throw new UnsupportedOperationException("the text is later, or was burned");
        }
        if (texts.size() >= TEXTS) {
            throw new IllegalStateException("there are 30 texts");
        }
        Text made = new Text(false, source.tongue, year, source.cityIn(year));
        Draws draws = new Draws(seed);
        for (int i = 0; i < source.sentences.size(); i++) {
            Sentence copied = kept(source.sentences.get(i), text, i);
            miscopy(copied, tongueAt(source.tongue), rate, draws);
            made.sentences.add(copied);
        }
        return addText(made);
    }

    public int bind(int text, int other, int at, int year) throws IndexOutOfBoundsException, IllegalArgumentException, UnsupportedOperationException, IllegalStateException {
        Text first = textAt(text);
        Text second = textAt(other);
        if (first == null || second == null) {
            throw new IndexOutOfBoundsException("no such text");
        }
        if (at < 0 || at > SENTENCES || !isYear(year)) {
            throw new IllegalArgumentException("0 to 8 sentences, a year 0 to 2000");
        }
        if (first.tongue != second.tongue || first.cityIn(year) == NONE || second.cityIn(year) == NONE) {
            throw new UnsupportedOperationException("unlike tongues, or one is later, or was burned");
        }
        if (texts.size() >= TEXTS) {
            throw new IllegalStateException("there are 30 texts");
        }
        Text made = new Text(false, first.tongue, year, first.cityIn(year));
        for (int i = 0; i < at && i < first.sentences.size(); i++) {
            made.sentences.add(kept(first.sentences.get(i), text, i));
        }
        for (int i = at; i < second.sentences.size(); i++) {
            made.sentences.add(kept(second.sentences.get(i), other, i));
        }
        return addText(made);
    }

    public int revise(int text, int other, int translator, int year, int seed) throws IndexOutOfBoundsException, IllegalArgumentException, UnsupportedOperationException, IllegalStateException {
        Text revised = textAt(text);
        Text source = textAt(other);
        Translator writer = translatorAt(translator);
        if (revised == null || source == null || writer == null) {
            throw new IndexOutOfBoundsException("no such text or translator");
        }
        if (!isYear(year) || !isSeed(seed)) {
            throw new IllegalArgumentException("a year 0 to 2000, a seed 0 to 99999");
        }
        if (revised.tongue == source.tongue || revised.cityIn(year) == NONE || source.cityIn(year) == NONE) {
            throw new UnsupportedOperationException("one tongue for both, or one is later, or was burned");
        }
        if (texts.size() >= TEXTS) {
            throw new IllegalStateException("there are 30 texts");
        }
        Text made = new Text(false, revised.tongue, year, revised.cityIn(year));
        made.translator = translator;
        Rendering pass = new Rendering(writer, source.tongue, revised.tongue, year, new Draws(seed));
        for (int i = 0; i < revised.sentences.size(); i++) {
            Sentence old = revised.sentences.get(i);
            int better = old.isMarred() ? source.firstLike(old) : NONE;
            if (better >= 0 && better < source.sentences.size()) {
                made.sentences.add(rendered(source.sentences.get(better), other, better, pass));
            } else {
                made.sentences.add(kept(old, text, i));
            }
        }
        return addText(made);
    }

    // ---- what stands in a text ----

    public int sentences(int text) throws IndexOutOfBoundsException {
        Text asked = textAt(text);
        if (asked == null) {
            throw new IndexOutOfBoundsException("no such text");
        }
        return asked.sentences.size();
    }

    public int signs(int text, int sentence) throws IndexOutOfBoundsException {
        Sentence asked = sentenceAt(text, sentence);
        if (asked == null) {
            throw new IndexOutOfBoundsException("no such text or sentence");
        }
        return asked.size;
    }

    public int signAt(int text, int sentence, int place) throws IndexOutOfBoundsException {
        Sentence asked = sentenceAt(text, sentence);
        if (asked == null || !asked.has(place)) {
            throw new IndexOutOfBoundsException("no such text, sentence or place");
        }
        return asked.signs[place];
    }

    public char letterAt(int text, int sentence, int place) throws IndexOutOfBoundsException {
        Sentence asked = sentenceAt(text, sentence);
        if (asked == null || !asked.has(place)) {
            throw new IndexOutOfBoundsException("no such text, sentence or place");
        }
        return asked.letters[place];
    }

    public int comesFrom(int text, int sentence) throws IndexOutOfBoundsException {
        Sentence asked = sentenceAt(text, sentence);
        if (asked == null) {
            throw new IndexOutOfBoundsException("no such text or sentence");
        }
        return 10 * asked.originText + asked.originSentence;
    }

    public int parentOf(int text, int sentence) throws IndexOutOfBoundsException, NoSuchElementException {
        Sentence asked = sentenceAt(text, sentence);
        if (asked == null) {
            throw new IndexOutOfBoundsException("no such text or sentence");
        }
        if (asked.parentText == NONE) {
            throw new NoSuchElementException("a sentence of an original has no parent");
        }
        return 10 * asked.parentText + asked.parentSentence;
    }

    public int read(int text, int sentence, int place, int translator, int year) throws IndexOutOfBoundsException, IllegalArgumentException, NoSuchElementException {
        Text asked = textAt(text);
        Sentence within = sentenceAt(text, sentence);
        Translator reader = translatorAt(translator);
        if (asked == null || within == null || !within.has(place) || reader == null) {
            throw new IndexOutOfBoundsException("no such text, sentence, place or translator");
        }
        if (!isYear(year)) {
            throw new IllegalArgumentException("a year is 0 to 2000");
        }
        if (!isWord(within.signs[place])) {
            throw new NoSuchElementException("the sign is no word");
        }
        return senseRead(within, place, asked.tongue, reader, year);
    }

    public boolean isRight(int text, int sentence, int place) throws IndexOutOfBoundsException {
        Text asked = textAt(text);
        Sentence within = sentenceAt(text, sentence);
        if (asked == null || within == null || !within.has(place)) {
            throw new IndexOutOfBoundsException("no such text, sentence or place");
        }
        return isRightIn(asked, within, place);
    }

    public int losses(int text) throws IndexOutOfBoundsException {
        Text asked = textAt(text);
        if (asked == null) {
            throw new IndexOutOfBoundsException("no such text");
        }
        return asked.signCount() - rightSigns(asked);
    }

    public int doubt(int text, int sentence, int place) throws IndexOutOfBoundsException {
        Sentence asked = sentenceAt(text, sentence);
        if (asked == null || !asked.has(place)) {
            throw new IndexOutOfBoundsException("no such text, sentence or place");
        }
        return doubtAlong(text, sentence, place);
    }

    // ---- where texts lie and what is known ----

    public int carry(int text, int city, int year) throws IndexOutOfBoundsException, IllegalArgumentException, UnsupportedOperationException {
        Text carried = textAt(text);
        if (carried == null || !isCity(city)) {
            throw new IndexOutOfBoundsException("no such text or city");
        }
        if (!isYear(year)) {
            throw new IllegalArgumentException("a year is 0 to 2000");
        }
        int start = carried.lastYear() <= year ? carried.cityIn(year) : NONE;
        int steps = isCity(start) ? roadsBetween(start, city, year) : NONE;
        if (steps == NONE) {
            throw new UnsupportedOperationException("it came there later, was burned, or there is no way");
        }
        carried.arrive(city, year);
        return steps;
    }

    public int burn(int text, int year) throws IndexOutOfBoundsException, IllegalArgumentException, UnsupportedOperationException {
        Text burning = textAt(text);
        if (burning == null) {
            throw new IndexOutOfBoundsException("no such text");
        }
        if (!isYear(year)) {
            throw new IllegalArgumentException("a year is 0 to 2000");
        }
        if (burning.lastYear() > year || burning.burnYear != NEVER) {
            throw new UnsupportedOperationException("it came there later, or was burned");
        }
        int place = burning.cityIn(year);
        burning.burnYear = year;
        return place;
    }

    public int lies(int text, int year) throws IndexOutOfBoundsException, IllegalArgumentException, NoSuchElementException {
        Text asked = textAt(text);
        if (asked == null) {
            throw new IndexOutOfBoundsException("no such text");
        }
        if (!isYear(year)) {
            throw new IllegalArgumentException("a year is 0 to 2000");
        }
        int place = asked.cityIn(year);
        if (place == NONE) {
            throw new NoSuchElementException("it was not made yet, or is burned");
        }
        return place;
    }

    public boolean isKnown(int city, int text, int sentence, int year) throws IndexOutOfBoundsException, IllegalArgumentException, UnsupportedOperationException {
        Text asked = textAt(text);
        if (!isCity(city) || asked == null || sentenceAt(text, sentence) == null) {
            throw new IndexOutOfBoundsException("no such city, text or sentence");
        }
        if (!isYear(year)) {
            throw new IllegalArgumentException("a year is 0 to 2000");
        }
        if (!asked.isOriginal) {
            throw new UnsupportedOperationException("it is no original");
        }
        return hasBit(citiesThatKnow(text, sentence, year), city);
    }

    public int cities(int text, int sentence, int year) throws IndexOutOfBoundsException, IllegalArgumentException, UnsupportedOperationException {
        Text asked = textAt(text);
        if (asked == null || sentenceAt(text, sentence) == null) {
            throw new IndexOutOfBoundsException("no such text or sentence");
        }
        if (!isYear(year)) {
            throw new IllegalArgumentException("a year is 0 to 2000");
        }
        if (!asked.isOriginal) {
            throw new UnsupportedOperationException("it is no original");
        }
        return Integer.bitCount(citiesThatKnow(text, sentence, year));
    }

    // ---- hands ----

    public int signed(int text) throws IndexOutOfBoundsException, UnsupportedOperationException {
        Text asked = textAt(text);
        if (asked == null) {
            throw new IndexOutOfBoundsException("no such text");
        }
        Translator signer = translatorAt(asked.translator);
        if (signer == null || asked.isSigned) {
            throw new UnsupportedOperationException("it was not translated, or is signed");
        }
        asked.isSigned = true;
        signer.signedCount++;
        return signer.signedCount;
    }

    public int likeness(int text, int translator) throws IndexOutOfBoundsException, NoSuchElementException {
        Text asked = textAt(text);
        if (asked == null || translatorAt(translator) == null) {
            throw new IndexOutOfBoundsException("no such text or translator");
        }
        int all = particlesAmong(asked, ~0L);
        if (all == 0) {
            throw new NoSuchElementException("it has no particles");
        }
        return thousandths(asked, text, translator, all);
    }

    public int hand(int text) throws IndexOutOfBoundsException, NoSuchElementException {
        Text asked = textAt(text);
        if (asked == null) {
            throw new IndexOutOfBoundsException("no such text");
        }
        int all = particlesAmong(asked, ~0L);
        if (all == 0 || translators.isEmpty()) {
            throw new NoSuchElementException("it has no particles, or there are no translators");
        }
        int best = 0;
        int most = NONE;
        for (int i = 0; i < translators.size(); i++) {
            int alike = thousandths(asked, text, i, all);
            if (alike > most) {
                most = alike;
                best = i;
            }
        }
        return best;
    }

    // ---- what the original must have had ----

    public int likely(int text, int sentence, int place) throws IndexOutOfBoundsException, UnsupportedOperationException, NoSuchElementException {
        Text asked = textAt(text);
        Sentence within = sentenceAt(text, sentence);
        if (asked == null || within == null || !within.has(place)) {
            throw new IndexOutOfBoundsException("no such text, sentence or place");
        }
        if (!asked.isOriginal) {
            throw new UnsupportedOperationException("it is no original");
        }
        int heard = hearWitnesses(within, asked.tongue, place);
        int best = likeliest(asked.tongue, heard);
        if (best == NONE) {
            throw new NoSuchElementException("no text of another tongue has it, or its tongue has no words");
        }
        return best;
    }

    public int cost(int text, int sentence, int place) throws IndexOutOfBoundsException, UnsupportedOperationException, NoSuchElementException {
        Text asked = textAt(text);
        Sentence within = sentenceAt(text, sentence);
        if (asked == null || within == null || !within.has(place)) {
            throw new IndexOutOfBoundsException("no such text, sentence or place");
        }
        if (!asked.isOriginal) {
            throw new UnsupportedOperationException("it is no original");
        }
        int heard = hearWitnesses(within, asked.tongue, place);
        int best = likeliest(asked.tongue, heard);
        if (best == NONE) {
            throw new NoSuchElementException("no text of another tongue has it, or its tongue has no words");
        }
        return unexplained(tongueAt(asked.tongue).maskOf(best), heard);
    }

    public int stands(int tongue, int word, int into) throws IndexOutOfBoundsException, IllegalArgumentException, NoSuchElementException {
        if (!isTongue(tongue) || !isTongue(into) || !tongues[tongue].has(word)) {
            throw new IndexOutOfBoundsException("no such tongue or word");
        }
        if (tongue == into) {
            throw new IllegalArgumentException("both tongues are the same");
        }
        int best = commonestFor(tongue, word, into);
        if (best == NONE) {
            throw new NoSuchElementException("nothing stands for it");
        }
        return best;
    }

    public int times(int tongue, int word, int into) throws IndexOutOfBoundsException, IllegalArgumentException {
        if (!isTongue(tongue) || !isTongue(into) || !tongues[tongue].has(word)) {
            throw new IndexOutOfBoundsException("no such tongue or word");
        }
        if (tongue == into) {
            throw new IllegalArgumentException("both tongues are the same");
        }
        int best = commonestFor(tongue, word, into);
        return best >= 0 && best < tally.length ? tally[best] : 0;
    }

    // ---- sums over texts ----

    public long checksum(int text) throws IndexOutOfBoundsException {
        Text asked = textAt(text);
        if (asked == null) {
            throw new IndexOutOfBoundsException("no such text");
        }
        long sum = 0;
        for (int i = 0; i < asked.sentences.size(); i++) {
            Sentence within = asked.sentences.get(i);
            for (int place = 0; place < within.size; place++) {
                sum = 31 * sum + within.signs[place] + 7 * within.letters[place];
            }
        }
        return sum;
    }

    public float rightShare() throws ArithmeticException {
        int right = 0;
        int all = 0;
        for (int i = 0; i < texts.size(); i++) {
            right += rightSigns(texts.get(i));
            all += texts.get(i).signCount();
        }
        if (all == 0) {
            throw new ArithmeticException("there are no signs");
        }
        return (float) right / (float) all;
    }

    public double meanDoubt(int text) throws IndexOutOfBoundsException, ArithmeticException {
        Text asked = textAt(text);
        if (asked == null) {
            throw new IndexOutOfBoundsException("no such text");
        }
        int all = asked.signCount();
        if (all == 0) {
            throw new ArithmeticException("the text has no signs");
        }
        int sum = 0;
        for (int i = 0; i < asked.sentences.size(); i++) {
            for (int place = 0; place < asked.sentences.get(i).size; place++) {
                sum += doubtAlong(text, i, place);
            }
        }
        return (double) sum / (double) all;
    }

    public boolean isSound() {
        for (int i = 0; i < texts.size(); i++) {
            Text checked = texts.get(i);
            for (int j = 0; j < checked.sentences.size(); j++) {
                if (!isSoundSentence(checked, checked.sentences.get(j))) {
                    return false;
                }
            }
        }
        return true;
    }

    // ---- what there is ----

    private static boolean isTongue(int tongue) {
        return tongue >= 0 && tongue < TONGUES;
    }

    private static boolean isSense(int sense) {
        return sense >= 0 && sense < SENSES;
    }

    private static boolean isYear(int year) {
        return year >= 0 && year <= LAST_YEAR;
    }

    private static boolean isSeed(int seed) {
        return seed >= 0 && seed <= LAST_SEED;
    }

    private boolean isCity(int city) {
        return city >= 0 && city < cityCount;
    }

    private static boolean hasBit(int mask, int bit) {
        return ((mask >> bit) & 1) == 1;
    }

    /** The tongue of a text or of a translator's way: looked at when that began, and again here as an index. */
    private Tongue tongueAt(int tongue) {
        return tongues[isTongue(tongue) ? tongue : 0];
    }

    private Text textAt(int text) {
        return text >= 0 && text < texts.size() ? texts.get(text) : null;
    }

    private Sentence sentenceAt(int text, int sentence) {
        Text found = textAt(text);
        if (found == null || sentence < 0 || sentence >= found.sentences.size()) {
            return null;
        }
        return found.sentences.get(sentence);
    }

    private School schoolAt(int school) {
        return school >= 0 && school < schools.size() ? schools.get(school) : null;
    }

    private Translator translatorAt(int translator) {
        return translator >= 0 && translator < translators.size() ? translators.get(translator) : null;
    }

    private int senseAt(int tongue, int word, int index) {
        return isTongue(tongue) ? tongues[tongue].senseAt(word, index) : NONE;
    }

    private int addText(Text made) {
        texts.add(made);
        return texts.size() - 1;
    }

    private boolean hasOffspring(int text) {
        for (int i = 0; i < texts.size(); i++) {
            if (i != text && texts.get(i).isOf(text)) {
                return true;
            }
        }
        return false;
    }

    /** The last sentence of an original to which signs can still be added, or null. */
    private Sentence openSentence(Text told, int text) {
        if (!told.isOriginal || told.sentences.isEmpty() || hasOffspring(text)) {
            return null;
        }
        return told.sentences.get(told.sentences.size() - 1);
    }

    // ---- signs ----

    private static boolean isWord(int sign) {
        return sign >= 0 && sign < NUMBERS;
    }

    /** The tongue of a word that stands in a text of the given tongue. */
    private static int tongueOfWord(int sign, int tongue) {
        return sign < STANDING ? tongue : sign / STANDING - 1;
    }

    private static int wordBehindSign(int sign) {
        return sign % STANDING;
    }

    /** The senses of a sign as bits; none if it is no word. */
    private int maskOfSign(int sign, int tongue) {
        int own = tongueOfWord(sign, tongue);
        return isWord(sign) && isTongue(own) ? tongues[own].maskOf(wordBehindSign(sign)) : 0;
    }

    // ---- reading ----

    private int senseRead(Sentence within, int place, int tongue, Translator reader, int year) {
        int sign = within.signs[place];
        int own = tongueOfWord(sign, tongue);
        int word = wordBehindSign(sign);
        int taught = reader.school.teaching.countingIn(own, word, year);
        if (taught != NONE) {
            return senseAt(own, word, taught);
        }
        int best = senseAt(own, word, 0);
        if (!reader.bySense) {
            return best;
        }
        int most = 0;
        for (int index = 0; index < SENSES_OF_WORD; index++) {
            int sense = senseAt(own, word, index);
            int weight = sense == NONE ? NONE : sensesAround(within, place, tongue, sense / FIELD);
            if (weight > most) {
                most = weight;
                best = sense;
            }
        }
        return best;
    }

    /** How many senses of a field the words at the other places have. */
    private int sensesAround(Sentence within, int place, int tongue, int field) {
        int sum = 0;
        for (int i = 0; i < within.size; i++) {
            if (i != place) {
                int mask = maskOfSign(within.signs[i], tongue);
                sum += Integer.bitCount(mask & (FIELD_BITS << (FIELD * field)));
            }
        }
        return sum;
    }

    // ---- rendering ----

    private Sentence rendered(Sentence source, int parentText, int parentSentence, Rendering pass) {
        Sentence result = new Sentence(source.isVerse, source.originText, source.originSentence, parentText, parentSentence);
        boolean losesRhyme = source.isVerse && !pass.translator.bySense && pass.skill < RHYMING_SKILL;
        for (int place = 0; place < source.size; place++) {
            int sign = source.signs[place];
            if (sign == GAP) {
                result.put(GAP, '.', NONE);
            } else if (losesRhyme && place == source.size - 1) {
                result.put(GAP, 'v', NONE);
            } else if (sign >= NUMBERS) {
                int number = renderedNumber(sign - NUMBERS, pass);
                result.put(NUMBERS + number, NUMBERS + number == sign ? '=' : 'n', NONE);
            } else {
                renderWord(source, place, pass, result);
            }
        }
        return result;
    }

    private int renderedNumber(int number, Rendering pass) {
        boolean losesNoughts = !tongueAt(pass.from).hasNought && tongueAt(pass.into).hasNought && pass.skill < READY_SKILL;
        if (!losesNoughts) {
            return number;
        }
        int result = 0;
        int scale = 1;
        int rest = number;
        for (int i = 0; i < DIGITS; i++) {
            int digit = rest % 10;
            rest = rest / 10;
            if (digit != 0) {
                result += digit * scale;
                scale *= 10;
            }
        }
        return result;
    }

    private void renderWord(Sentence source, int place, Rendering pass, Sentence result) {
        int sign = source.signs[place];
        int own = tongueOfWord(sign, pass.from);
        int word = wordBehindSign(sign);
        int sense = senseRead(source, place, pass.from, pass.translator, pass.year);
        if (own == pass.into) {
            result.put(word, 'h', sense);
            return;
        }
        boolean slips = pass.draws.next(100) < 3 * (BEST_SKILL - pass.skill);
        if (slips && pass.draws.next(2) == 0) {
            result.put(GAP, 'o', NONE);
            return;
        }
        Tongue vocabulary = tongueAt(pass.into);
        char letter = 'g';
        int found = pass.translator.school.glossary.countingIn(pass.into, sense, pass.year);
        if (found == NONE) {
            letter = 'h';
            found = vocabulary.lowestWith(sense, pass.skill >= READY_SKILL);
        }
        if (found == NONE) {
            letter = pass.translator.school.way;
            found = coined(own, word, sense, pass);
        }
        if (found == NONE) {
            result.put(STANDING * (own + 1) + word, 'l', NONE);
        } else if (slips) {
            result.put(vocabulary.behind(found), 'x', NONE);
        } else {
            result.put(found, letter, sense);
        }
    }

    /** The new word for a sense by the way of the school, or NONE if the word is to be left standing. */
    private int coined(int own, int word, int sense, Rendering pass) {
        char way = pass.translator.school.way;
        Tongue vocabulary = tongueAt(pass.into);
        if (way == 'b') {
            return vocabulary.addWord(sense);
        }
        if (way != 'c') {
            return NONE;
        }
        int added = vocabulary.addWord(senseAt(own, word, 0));
        for (int index = 1; index < SENSES_OF_WORD; index++) {
            vocabulary.addSense(added, senseAt(own, word, index));
        }
        return added;
    }

    // ---- copies ----

    /** A sentence of a text as it stands, as a child of itself. */
    private static Sentence kept(Sentence old, int text, int sentence) {
        Sentence result = new Sentence(old.isVerse, old.originText, old.originSentence, text, sentence);
        for (int place = 0; place < old.size; place++) {
            result.put(old.signs[place], '=', NONE);
        }
        return result;
    }

    private static void miscopy(Sentence copied, Tongue vocabulary, int rate, Draws draws) {
        for (int place = 0; place < copied.size; place++) {
            int sign = copied.signs[place];
            boolean isOwnWord = sign >= 0 && sign < STANDING;
            if (isOwnWord && draws.next(100) < rate) {
                copied.signs[place] = vocabulary.behind(sign);
                copied.letters[place] = 'm';
            }
        }
    }

    // ---- right and doubt ----

    private boolean isRightIn(Text within, Sentence checked, int place) {
        Sentence origin = sentenceAt(checked.originText, checked.originSentence);
        if (origin == null || !origin.has(place)) {
            return false;
        }
        int sign = checked.signs[place];
        if (origin.signs[place] >= NUMBERS) {
            return sign == origin.signs[place];
        }
        return hasBit(maskOfSign(sign, within.tongue), origin.senses[place]);
    }

    private boolean isAllRight(Text within, Sentence checked) {
        for (int place = 0; place < checked.size; place++) {
            if (!isRightIn(within, checked, place)) {
                return false;
            }
        }
        return true;
    }

    private int rightSigns(Text counted) {
        int right = 0;
        for (int i = 0; i < counted.sentences.size(); i++) {
            Sentence checked = counted.sentences.get(i);
            for (int place = 0; place < checked.size; place++) {
                if (isRightIn(counted, checked, place)) {
                    right++;
                }
            }
        }
        return right;
    }

    private static int doubtOfLetter(char letter) {
        if (letter == '=' || letter == 'g' || letter == '.') {
            return 0;
        }
        if (letter == 'h') {
            return 1;
        }
        return letter == 'b' || letter == 'c' || letter == 'l' ? 2 : 3;
    }

    private int doubtAlong(int text, int sentence, int place) {
        int sum = 0;
        Sentence met = sentenceAt(text, sentence);
        // Parents are earlier texts, so a line of them is no longer than there are texts.
        for (int i = 0; i < TEXTS && met != null && met.has(place); i++) {
            sum += doubtOfLetter(met.letters[place]);
            met = sentenceAt(met.parentText, met.parentSentence);
        }
        return sum;
    }

    // ---- roads and knowledge ----

    /** Along how many roads at least one comes from a city to another in a year, or NONE. */
    private int roadsBetween(int start, int goal, int year) {
        int reached = 1 << start;
        for (int steps = 0; steps < CITIES; steps++) {
            if (hasBit(reached, goal)) {
                return steps;
            }
            reached = withNeighbours(reached, year);
        }
        return NONE;
    }

    private int withNeighbours(int reached, int year) {
        int wider = reached;
        for (int i = 0; i < roads.size(); i++) {
            Road way = roads.get(i);
            if (way.from <= year && year <= way.to) {
                wider |= hasBit(reached, way.city) ? 1 << way.other : 0;
                wider |= hasBit(reached, way.other) ? 1 << way.city : 0;
            }
        }
        return wider;
    }

    /** The cities, as bits, where a sentence of an original is known in a year. */
    private int citiesThatKnow(int text, int sentence, int year) {
        int known = 0;
        for (int i = 0; i < texts.size(); i++) {
            Text lying = texts.get(i);
            int place = lying.cityIn(year);
            if (place != NONE && hasRight(lying, text, sentence)) {
                known |= 1 << place;
            }
        }
        return known;
    }

    private boolean hasRight(Text lying, int text, int sentence) {
        for (int i = 0; i < lying.sentences.size(); i++) {
            Sentence candidate = lying.sentences.get(i);
            if (candidate.originText == text && candidate.originSentence == sentence && isAllRight(lying, candidate)) {
                return true;
            }
        }
        return false;
    }

    // ---- hands ----

    /** How many particles of a text are among words, given as bits. */
    private int particlesAmong(Text asked, long wordBits) {
        int sum = 0;
        for (int i = 0; i < asked.sentences.size(); i++) {
            Sentence within = asked.sentences.get(i);
            for (int place = 0; place < within.size; place++) {
                int sign = within.signs[place];
                if (isParticle(sign, asked.tongue) && ((wordBits >> sign) & 1L) == 1L) {
                    sum++;
                }
            }
        }
        return sum;
    }

    private boolean isParticle(int sign, int tongue) {
        int first = sign < STANDING ? senseAt(tongue, sign, 0) : NONE;
        return first != NONE && first < PARTICLE_SENSES;
    }

    private int thousandths(Text asked, int text, int translator, int all) {
        int shared = particlesAmong(asked, wordsSigned(asked.tongue, translator, text));
        return all > 0 ? 1000 * shared / all : 0;
    }

    /** The words, as bits, in what a translator signed in a tongue, one text aside. */
    private long wordsSigned(int tongue, int translator, int aside) {
        long bits = 0;
        for (int i = 0; i < texts.size(); i++) {
            Text other = texts.get(i);
            if (i != aside && other.isSigned && other.translator == translator && other.tongue == tongue) {
                bits |= other.ownWords();
            }
        }
        return bits;
    }

    // ---- what the original had ----

    /** Writes down the senses of the signs that tell of a place of an original, and tells how many. */
    private int hearWitnesses(Sentence origin, int tongue, int place) {
        int heard = 0;
        for (int i = 0; i < texts.size(); i++) {
            Text telling = texts.get(i);
            for (int j = 0; telling.tongue != tongue && j < telling.sentences.size(); j++) {
                Sentence within = telling.sentences.get(j);
                if (within.isLike(origin) && within.has(place) && heard < witnesses.length) {
                    witnesses[heard] = maskOfSign(within.signs[place], telling.tongue);
                    heard++;
                }
            }
        }
        return heard;
    }

    private int unexplained(int mask, int heard) {
        int sum = 0;
        for (int i = 0; i < heard && i < witnesses.length; i++) {
            if ((witnesses[i] & mask) == 0) {
                sum++;
            }
        }
        return sum;
    }

    private int likeliest(int tongue, int heard) {
        if (heard == 0) {
            return NONE;
        }
        int best = NONE;
        int least = heard + 1;
        Tongue vocabulary = tongueAt(tongue);
        for (int word = 0; word < vocabulary.size; word++) {
            int cost = unexplained(vocabulary.maskOf(word), heard);
            if (cost < least) {
                least = cost;
                best = word;
            }
        }
        return best;
    }

    /** Tallies what stands for a word, and tells the lowest of the commonest signs, or NONE. */
    private int commonestFor(int tongue, int word, int into) {
        for (int i = 0; i < tally.length; i++) {
            tally[i] = 0;
        }
        for (int i = 0; i < texts.size(); i++) {
            Text rendering = texts.get(i);
            for (int j = 0; rendering.tongue == into && j < rendering.sentences.size(); j++) {
                tallyFor(tongue, word, rendering.sentences.get(j));
            }
        }
        int best = NONE;
        int most = 0;
        for (int sign = 0; sign < tally.length; sign++) {
            if (tally[sign] > most) {
                most = tally[sign];
                best = sign;
            }
        }
        return best;
    }

    private void tallyFor(int tongue, int word, Sentence child) {
        Text source = textAt(child.parentText);
        Sentence parent = sentenceAt(child.parentText, child.parentSentence);
        // A parent of another tongue means a rendering: copies, volumes and what a revision keeps have one of their own.
        if (source == null || parent == null || source.tongue != tongue) {
            return;
        }
        for (int place = 0; place < child.size; place++) {
            int sign = child.signs[place];
            if (parent.has(place) && parent.signs[place] == word && sign >= 0 && sign < tally.length) {
                tally[sign]++;
            }
        }
    }

    // ---- soundness ----

    private boolean isSoundSentence(Text within, Sentence checked) {
        if (within.isOriginal) {
            return true;
        }
        Text source = textAt(checked.parentText);
        Sentence parent = sentenceAt(checked.parentText, checked.parentSentence);
        if (source == null || parent == null || parent.size != checked.size || within.year < source.year) {
            return false;
        }
        for (int place = 0; place < checked.size; place++) {
            boolean fillsGap = parent.signs[place] == GAP && isWord(checked.signs[place]);
            if (fillsGap || !keepsSense(within, checked, place)) {
                return false;
            }
        }
        return true;
    }

    private boolean keepsSense(Text within, Sentence checked, int place) {
        char letter = checked.letters[place];
        if (letter != 'g' && letter != 'h' && letter != 'b' && letter != 'c') {
            return true;
        }
        int mask = maskOfSign(checked.signs[place], within.tongue);
        return within.isRelay ? mask != 0 : hasBit(mask, checked.senses[place]);
    }

    // ---- the parts of the land ----

    /** The words of a tongue with their senses, in their order and as bits. */
    private static final class Tongue {
        final int[] senses = new int[WORDS * SENSES_OF_WORD];
        final int[] masks = new int[WORDS];
        int size;
        boolean hasNought = true;

        boolean has(int word) {
            return word >= 0 && word < size;
        }

        int maskOf(int word) {
            return word >= 0 && word < size ? masks[word] : 0;
        }

        int senseCount(int word) {
            return word >= 0 && word < size ? Integer.bitCount(masks[word]) : 0;
        }

        int senseAt(int word, int index) {
            return index >= 0 && index < senseCount(word) ? senses[SENSES_OF_WORD * word + index] : NONE;
        }

        /** Adds a word with one sense; NONE if there is no room for it. */
        int addWord(int sense) {
            if (size >= WORDS || !isSense(sense)) {
                return NONE;
            }
            size++;
            addSense(size - 1, sense);
            return size - 1;
        }

        /** Adds a sense that the word has not, if the word has room for it. */
        void addSense(int word, int sense) {
            int known = senseCount(word);
            if (has(word) && isSense(sense) && known < SENSES_OF_WORD && !hasBit(masks[word], sense)) {
                senses[SENSES_OF_WORD * word + known] = sense;
                masks[word] |= 1 << sense;
            }
        }

        int behind(int word) {
            return has(word + 1) ? word + 1 : 0;
        }

        /** The lowest word with a sense, one of which it is the first if that is sought and there is one. */
        int lowestWith(int sense, boolean firstSought) {
            int found = NONE;
            for (int word = size - 1; word >= 0; word--) {
                if (hasBit(masks[word], sense)) {
                    found = word;
                }
            }
            for (int word = 0; firstSought && word < size; word++) {
                if (senses[SENSES_OF_WORD * word] == sense) {
                    return word;
                }
            }
            return found;
        }
    }

    /** A sentence; the senses are those meant in an original, and those by which signs were read elsewhere. */
    private static final class Sentence {
        final boolean isVerse;
        final int originText;
        final int originSentence;
        final int parentText;
        final int parentSentence;
        final int[] signs = new int[SIGNS];
        final int[] senses = new int[SIGNS];
        final char[] letters = new char[SIGNS];
        int size;

        Sentence(boolean isVerse, int originText, int originSentence, int parentText, int parentSentence) {
            this.isVerse = isVerse;
            this.originText = originText;
            this.originSentence = originSentence;
            this.parentText = parentText;
            this.parentSentence = parentSentence;
        }

        boolean has(int place) {
            return place >= 0 && place < size;
        }

        boolean isFull() {
            return size >= SIGNS;
        }

        void put(int sign, char letter, int sense) {
            if (!isFull()) {
                signs[size] = sign;
                letters[size] = letter;
                senses[size] = sense;
                size++;
            }
        }

        /** Whether it comes from the same sentence of an original. */
        boolean isLike(Sentence other) {
            return originText == other.originText && originSentence == other.originSentence;
        }

        /** Whether a reviser would render it anew. */
        boolean isMarred() {
            for (int place = 0; place < size; place++) {
                if (isLoss(letters[place]) || letters[place] == 'm' || letters[place] == '.') {
                    return true;
                }
            }
            return false;
        }

        /** Through a relay the losses of the reader are what the writer's signs came by. */
        void takeLossesOf(Sentence between) {
            for (int place = 0; place < size && between.has(place); place++) {
                if (isLoss(between.letters[place])) {
                    letters[place] = between.letters[place];
                }
            }
        }

        private static boolean isLoss(char letter) {
            return letter == 'o' || letter == 'x' || letter == 'v' || letter == 'n' || letter == 'l';
        }
    }

    /** A text, and where it came to lie in which years. */
    private static final class Text {
        final boolean isOriginal;
        final int tongue;
        final int year;
        final ArrayList<Sentence> sentences = new ArrayList<>();
        final ArrayList<Arrival> arrivals = new ArrayList<>();
        int burnYear = NEVER;
        int translator = NONE;
        boolean isRelay;
        boolean isSigned;

        Text(boolean isOriginal, int tongue, int year, int city) {
            this.isOriginal = isOriginal;
            this.tongue = tongue;
            this.year = year;
            arrivals.add(new Arrival(city, year));
        }

        int signCount() {
            int sum = 0;
            for (int i = 0; i < sentences.size(); i++) {
                sum += sentences.get(i).size;
            }
            return sum;
        }

        boolean isOf(int text) {
            for (int i = 0; i < sentences.size(); i++) {
                if (sentences.get(i).originText == text) {
                    return true;
                }
            }
            return false;
        }

        /** The first sentence that comes from the same one of an original, or NONE. */
        int firstLike(Sentence sought) {
            for (int i = 0; i < sentences.size(); i++) {
                if (sentences.get(i).isLike(sought)) {
                    return i;
                }
            }
            return NONE;
        }

        /** The words of its own tongue that stand in it, as bits. */
        long ownWords() {
            long bits = 0;
            for (int i = 0; i < sentences.size(); i++) {
                Sentence within = sentences.get(i);
                for (int place = 0; place < within.size; place++) {
                    int sign = within.signs[place];
                    bits |= sign >= 0 && sign < WORDS ? 1L << sign : 0L;
                }
            }
            return bits;
        }

        /** The city where it lies in a year; NONE if it is not made yet, or burned. */
        int cityIn(int when) {
            int place = NONE;
            for (int i = 0; i < arrivals.size(); i++) {
                if (arrivals.get(i).year <= when) {
                    place = arrivals.get(i).city;
                }
            }
            return when < burnYear ? place : NONE;
        }

        int lastYear() {
            return arrivals.isEmpty() ? year : arrivals.get(arrivals.size() - 1).year;
        }

        void arrive(int city, int when) {
            if (!arrivals.isEmpty() && when == lastYear()) {
                arrivals.set(arrivals.size() - 1, new Arrival(city, when));
            } else if (arrivals.size() <= CALLS) {
                arrivals.add(new Arrival(city, when));
            }
        }
    }

    private static final class Arrival {
        final int city;
        final int year;

        Arrival(int city, int year) {
            this.city = city;
            this.year = year;
        }
    }

    private static final class Road {
        final int city;
        final int other;
        final int from;
        final int to;

        Road(int city, int other, int from, int to) {
            this.city = city;
            this.other = other;
            this.from = from;
            this.to = to;
        }
    }

    private static final class School {
        final char way;
        final Ledger glossary = new Ledger();
        final Ledger teaching = new Ledger();

        School(char way) {
            this.way = way;
        }
    }

    /** What was told in years: a word for a sense, or the index of a sense for a word. */
    private static final class Ledger {
        final ArrayList<Entry> entries = new ArrayList<>();

        /** What counts in a year, or NONE. */
        int countingIn(int tongue, int key, int year) {
            int value = NONE;
            int latest = NONE;
            for (int i = 0; i < entries.size(); i++) {
                Entry met = entries.get(i);
                if (met.tongue == tongue && met.key == key && met.year <= year && met.year >= latest) {
                    latest = met.year;
                    value = met.value;
                }
            }
            return value;
        }

        void tell(int tongue, int key, int year, int value) {
            for (int i = 0; i < entries.size(); i++) {
                Entry met = entries.get(i);
                if (met.tongue == tongue && met.key == key && met.year == year) {
                    met.value = value;
                    return;
                }
            }
            // More cannot be told in the calls that an object is used for.
            if (entries.size() < CALLS) {
                entries.add(new Entry(tongue, key, year, value));
            }
        }
    }

    private static final class Entry {
        final int tongue;
        final int key;
        final int year;
        int value;

        Entry(int tongue, int key, int year, int value) {
            this.tongue = tongue;
            this.key = key;
            this.year = year;
            this.value = value;
        }
    }

    private static final class Translator {
        final School school;
        final boolean bySense;
        final int[] skills = new int[TONGUES * TONGUES];
        int signedCount;

        Translator(School school, boolean bySense) {
            this.school = school;
            this.bySense = bySense;
        }

        int skillFor(int from, int into) {
            return isTongue(from) && isTongue(into) ? skills[TONGUES * from + into] : 0;
        }

        void learn(int from, int into, int grade) {
            if (isTongue(from) && isTongue(into)) {
                skills[TONGUES * from + into] = grade;
            }
        }
    }

    /** One pass of a translator over a text. */
    private static final class Rendering {
        final Translator translator;
        final int from;
        final int into;
        final int year;
        final int skill;
        final Draws draws;

        Rendering(Translator translator, int from, int into, int year, Draws draws) {
            this.translator = translator;
            this.from = from;
            this.into = into;
            this.year = year;
            this.skill = translator.skillFor(from, into);
            this.draws = draws;
        }
    }

    /** The row of draws that a seed begins. */
    private static final class Draws {
        long z;

        Draws(int seed) {
            z = seed;
        }

        int next(int modulus) {
            z = (z * 1103515245L + 12345L) % 2147483648L;
            return modulus > 0 ? (int) (z / 65536L % modulus) : 0;
        }
    }
}
