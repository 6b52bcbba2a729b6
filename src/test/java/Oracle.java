import java.util.ArrayList;
import java.util.List;
import java.util.NoSuchElementException;

/** The document told a second time, without care for room or speed: RandomTest compares the two. */
public final class Oracle {
    private static final class Line {
        char frame;
        int originText, originLine;
        int parentText = -1, parentLine = -1;
        List<Integer> signs = new ArrayList<>();
        List<Character> letters = new ArrayList<>();
        List<Integer> senses = new ArrayList<>();
    }

    private static final class Book {
        int tongue, year, signer = -1;
        boolean original, relayed, signed;
        Integer burned;
        List<int[]> places = new ArrayList<>();
        List<Line> lines = new ArrayList<>();
    }

    private static final class Told {
        int school, tongue, key, value, year;
    }

    private static final class Person {
        int school;
        char habit;
        int[][] skills = new int[4][4];
    }

    private final List<List<List<Integer>>> lexicon = new ArrayList<>();
    private final boolean[] noughts = {true, true, true, true};
    private int towns = 0;
    private final List<int[]> ways = new ArrayList<>();
    private final List<Book> books = new ArrayList<>();
    private final List<Character> schools = new ArrayList<>();
    private final List<Told> glosses = new ArrayList<>();
    private final List<Told> lessons = new ArrayList<>();
    private final List<Person> people = new ArrayList<>();
    private long z;

    public Oracle() {
        for (int i = 0; i < 4; i++) {
            lexicon.add(new ArrayList<>());
        }
    }

    private static void bounds(boolean fine) {
        if (!fine) throw new IndexOutOfBoundsException();
    }

    private static void argument(boolean fine) {
        if (!fine) throw new IllegalArgumentException();
    }

    private static void supported(boolean fine) {
        if (!fine) throw new UnsupportedOperationException();
    }

    private static void state(boolean fine) {
        if (!fine) throw new IllegalStateException();
    }

    private static void element(boolean fine) {
        if (!fine) throw new NoSuchElementException();
    }

    private static boolean in(int x, int low, int high) {
        return low <= x && x <= high;
    }

    private boolean tongueIs(int t) {
        return in(t, 0, 3);
    }

    private boolean wordIs(int t, int w) {
        return tongueIs(t) && in(w, 0, lexicon.get(t).size() - 1);
    }

    private boolean bookIs(int b) {
        return in(b, 0, books.size() - 1);
    }

    private boolean lineIs(int b, int l) {
        return bookIs(b) && in(l, 0, books.get(b).lines.size() - 1);
    }

    private boolean placeIs(int b, int l, int p) {
        return lineIs(b, l) && in(p, 0, books.get(b).lines.get(l).signs.size() - 1);
    }

    private boolean personIs(int p) {
        return in(p, 0, people.size() - 1);
    }

    private boolean schoolIs(int s) {
        return in(s, 0, schools.size() - 1);
    }

    private boolean townIs(int c) {
        return in(c, 0, towns - 1);
    }

    private static boolean yearIs(int y) {
        return in(y, 0, 2000);
    }

    private List<Integer> sensesOf(int t, int w) {
        return lexicon.get(t).get(w);
    }

    public int word(int tongue, int sense) {
        bounds(tongueIs(tongue));
        argument(in(sense, 0, 29));
        state(lexicon.get(tongue).size() < 40);
        lexicon.get(tongue).add(new ArrayList<>(List.of(sense)));
        return lexicon.get(tongue).size() - 1;
    }

    public int sense(int tongue, int word, int sense) {
        bounds(wordIs(tongue, word));
        argument(in(sense, 0, 29));
        supported(!sensesOf(tongue, word).contains(sense));
        state(sensesOf(tongue, word).size() < 3);
        sensesOf(tongue, word).add(sense);
        return sensesOf(tongue, word).size();
    }

    public int senseOf(int tongue, int word, int index) {
        bounds(wordIs(tongue, word) && in(index, 0, sensesOf(tongue, word).size() - 1));
        return sensesOf(tongue, word).get(index);
    }

    public int words(int tongue) {
        bounds(tongueIs(tongue));
        return lexicon.get(tongue).size();
    }

    public boolean nought(int tongue, boolean is) {
        bounds(tongueIs(tongue));
        boolean was = noughts[tongue];
        noughts[tongue] = is;
        return was;
    }

    public int city() {
        state(towns < 8);
        return towns++;
    }

    public int road(int city, int other, int from, int to) {
        bounds(townIs(city) && townIs(other));
        argument(city != other && yearIs(from) && yearIs(to) && from <= to);
        state(ways.size() < 20);
        ways.add(new int[] {city, other, from, to});
        return ways.size();
    }

    public int original(int tongue, int year, int city) {
        bounds(tongueIs(tongue) && townIs(city));
        argument(yearIs(year));
        state(books.size() < 30);
        Book made = begin(tongue, year, city);
        made.original = true;
        books.add(made);
        return books.size() - 1;
    }

    private static Book begin(int tongue, int year, int city) {
        Book made = new Book();
        made.tongue = tongue;
        made.year = year;
        made.places.add(new int[] {year, city});
        return made;
    }

    private boolean open(int text) {
        if (!books.get(text).original) return false;
        for (Book book : books) {
            for (Line line : book.lines) {
                if (book != books.get(text) && line.originText == text) return false;
            }
        }
        return true;
    }

    public int sentence(int text, char frame) {
        bounds(bookIs(text));
        argument(frame == 'p' || frame == 'v');
        supported(open(text));
        state(books.get(text).lines.size() < 8);
        Line line = new Line();
        line.frame = frame;
        line.originText = text;
        line.originLine = books.get(text).lines.size();
        books.get(text).lines.add(line);
        return line.originLine;
    }

    private int tell(int text, int sign, int sense) {
        List<Line> lines = books.get(text).lines;
        Line last = lines.get(lines.size() - 1);
        state(last.signs.size() < 6);
        add(last, sign, '=', sense);
        return last.signs.size();
    }

    private static void add(Line line, int sign, char letter, int sense) {
        line.signs.add(sign);
        line.letters.add(letter);
        line.senses.add(sense);
    }

    public int say(int text, int word, int index) {
        bounds(bookIs(text) && wordIs(books.get(text).tongue, word));
        List<Integer> senses = sensesOf(books.get(text).tongue, word);
        bounds(in(index, 0, senses.size() - 1));
        supported(open(text) && books.get(text).lines.size() > 0);
        return tell(text, word, senses.get(index));
    }

    public int count(int text, int number) {
        bounds(bookIs(text));
        argument(in(number, 0, 999));
        supported(open(text) && books.get(text).lines.size() > 0);
        return tell(text, 1000 + number, -1);
    }

    public int school(char way) {
        argument("bcl".indexOf(way) >= 0);
        state(schools.size() < 4);
        schools.add(way);
        return schools.size() - 1;
    }

    private static int counts(List<Told> all, int school, int tongue, int key, int year) {
        for (int y = year; y >= 0; y--) {
            for (int i = all.size() - 1; i >= 0; i--) {
                Told one = all.get(i);
                if (one.school == school && one.tongue == tongue && one.key == key && one.year == y) return one.value;
            }
        }
        return -1;
    }

    private static void put(List<Told> all, int school, int tongue, int key, int value, int year) {
        Told one = new Told();
        one.school = school;
        one.tongue = tongue;
        one.key = key;
        one.value = value;
        one.year = year;
        all.add(one);
    }

    public int gloss(int school, int tongue, int sense, int word, int year) {
        bounds(schoolIs(school) && wordIs(tongue, word));
        argument(in(sense, 0, 29) && yearIs(year));
        supported(sensesOf(tongue, word).contains(sense));
        int before = counts(glosses, school, tongue, sense, year);
        put(glosses, school, tongue, sense, word, year);
        return before;
    }

    public int teach(int school, int tongue, int word, int index, int year) {
        bounds(schoolIs(school) && wordIs(tongue, word) && in(index, 0, sensesOf(tongue, word).size() - 1));
        argument(yearIs(year));
        int before = counts(lessons, school, tongue, word, year);
        put(lessons, school, tongue, word, index, year);
        return before;
    }

    public int glossed(int school, int tongue, int sense, int year) {
        bounds(schoolIs(school) && tongueIs(tongue));
        argument(in(sense, 0, 29) && yearIs(year));
        int found = counts(glosses, school, tongue, sense, year);
        element(found >= 0);
        return found;
    }

    public int translator(int school, char habit) {
        bounds(schoolIs(school));
        argument(habit == 'w' || habit == 's');
        state(people.size() < 8);
        Person made = new Person();
        made.school = school;
        made.habit = habit;
        people.add(made);
        return people.size() - 1;
    }

    public int skill(int translator, int from, int into, int skill) {
        bounds(personIs(translator) && tongueIs(from) && tongueIs(into));
        argument(from != into && in(skill, 0, 9));
        int was = people.get(translator).skills[from][into];
        people.get(translator).skills[from][into] = skill;
        return was;
    }

    private int draw(int modulus) {
        z = Math.floorMod(Math.multiplyExact(z, 1103515245L) + 12345L, 1L << 31);
        return (int) ((z / 65536) % modulus);
    }

    private static boolean isWord(int sign) {
        return sign >= 0 && sign < 1000;
    }

    /** The tongue and the number of a word sign. */
    private static int[] which(int sign, int tongue) {
        for (int t = 3; t >= 0; t--) {
            if (sign >= 100 * (t + 1)) return new int[] {t, sign - 100 * (t + 1)};
        }
        return new int[] {tongue, sign};
    }

    private List<Integer> meanings(int sign, int tongue) {
        if (!isWord(sign)) return List.of();
        int[] word = which(sign, tongue);
        return sensesOf(word[0], word[1]);
    }

    private int reading(Line line, int place, int tongue, Person person, int year) {
        int[] word = which(line.signs.get(place), tongue);
        List<Integer> own = sensesOf(word[0], word[1]);
        int taught = counts(lessons, person.school, word[0], word[1], year);
        if (taught >= 0) return own.get(taught);
        if (person.habit == 'w') return own.get(0);
        int[] fields = new int[5];
        for (int i = 0; i < line.signs.size(); i++) {
            if (i == place) continue;
            for (int sense : meanings(line.signs.get(i), tongue)) fields[sense / 6]++;
        }
        int best = own.get(0);
        for (int sense : own) {
            if (fields[sense / 6] > fields[best / 6]) best = sense;
        }
        return best;
    }

    private Line render(Line from, int tongue, int into, Person person, int year) {
        int skill = person.skills[tongue][into];
        Line result = child(from, -1, -1);
        for (int i = 0; i < from.signs.size(); i++) {
            int sign = from.signs.get(i);
            boolean last = i + 1 == from.signs.size();
            if (sign == -1) {
                add(result, -1, '.', -1);
            } else if (last && from.frame == 'v' && person.habit == 'w' && skill < 7) {
                add(result, -1, 'v', -1);
            } else if (sign >= 1000) {
                String digits = String.valueOf(sign - 1000);
                String rest = digits.replace("0", "");
                boolean cut = !noughts[tongue] && noughts[into] && skill < 5 && !digits.equals("0") && !rest.equals(digits);
                add(result, cut ? 1000 + Integer.parseInt(rest) : sign, cut ? 'n' : '=', -1);
            } else {
                renderWord(from, i, tongue, into, person, year, result);
            }
        }
        return result;
    }

    private void renderWord(Line from, int place, int tongue, int into, Person person, int year, Line result) {
        int skill = person.skills[tongue][into];
        int[] word = which(from.signs.get(place), tongue);
        int sense = reading(from, place, tongue, person, year);
        if (word[0] == into) {
            add(result, word[1], 'h', sense);
            return;
        }
        boolean slip = draw(100) < 3 * (9 - skill);
        if (slip && draw(2) == 0) {
            add(result, -1, 'o', -1);
            return;
        }
        List<List<Integer>> there = lexicon.get(into);
        int found = counts(glosses, person.school, into, sense, year);
        char letter = 'g';
        if (found < 0) {
            letter = 'h';
            for (int w = 0; w < there.size() && found < 0 && skill >= 5; w++) {
                if (there.get(w).get(0) == sense) found = w;
            }
            for (int w = 0; w < there.size() && found < 0; w++) {
                if (there.get(w).contains(sense)) found = w;
            }
        }
        if (found < 0) {
            letter = schools.get(person.school);
            if (letter == 'l' || there.size() == 40) {
                add(result, word[1] + 100 + 100 * word[0], 'l', -1);
                return;
            }
            there.add(letter == 'b' ? new ArrayList<>(List.of(sense)) : new ArrayList<>(sensesOf(word[0], word[1])));
            found = there.size() - 1;
        }
        if (slip) {
            add(result, (found + 1) % there.size(), 'x', -1);
        } else {
            add(result, found, letter, sense);
        }
    }

    private static Line child(Line parent, int text, int line) {
        Line made = new Line();
        made.frame = parent.frame;
        made.originText = parent.originText;
        made.originLine = parent.originLine;
        made.parentText = text;
        made.parentLine = line;
        return made;
    }

    private Line same(int text, int line) {
        Line parent = books.get(text).lines.get(line);
        Line made = child(parent, text, line);
        for (int sign : parent.signs) add(made, sign, '=', -1);
        return made;
    }

    private int town(Book book, int year) {
        int place = -1;
        for (int[] stay : book.places) {
            if (stay[0] <= year) place = stay[1];
        }
        return book.burned != null && book.burned <= year ? -1 : place;
    }

    private boolean there(int text, int year) {
        return town(books.get(text), year) >= 0;
    }

    private int keep(Book made) {
        books.add(made);
        return books.size() - 1;
    }

    public int translate(int text, int translator, int tongue, int year, int seed) {
        bounds(bookIs(text) && personIs(translator) && tongueIs(tongue));
        Book source = books.get(text);
        argument(tongue != source.tongue && yearIs(year) && in(seed, 0, 99999));
        supported(there(text, year));
        state(books.size() < 30);
        z = seed;
        Book made = begin(tongue, year, town(source, year));
        made.signer = translator;
        for (int i = 0; i < source.lines.size(); i++) {
            Line line = render(source.lines.get(i), source.tongue, tongue, people.get(translator), year);
            line.parentText = text;
            line.parentLine = i;
            made.lines.add(line);
        }
        return keep(made);
    }

    public int relay(int text, int reader, int writer, int through, int tongue, int year, int seed) {
        bounds(bookIs(text) && personIs(reader) && personIs(writer) && tongueIs(through) && tongueIs(tongue));
        Book source = books.get(text);
        argument(through != tongue && through != source.tongue && tongue != source.tongue);
        argument(yearIs(year) && in(seed, 0, 99999));
        supported(there(text, year) && reader != writer);
        state(books.size() < 30);
        z = seed;
        Book made = begin(tongue, year, town(source, year));
        made.signer = writer;
        made.relayed = true;
        List<Line> between = new ArrayList<>();
        for (Line line : source.lines) between.add(render(line, source.tongue, through, people.get(reader), year));
        for (int i = 0; i < between.size(); i++) {
            Line line = render(between.get(i), through, tongue, people.get(writer), year);
            line.parentText = text;
            line.parentLine = i;
            for (int p = 0; p < line.letters.size(); p++) {
                char before = between.get(i).letters.get(p);
                if ("oxvnl".indexOf(before) >= 0) line.letters.set(p, before);
            }
            made.lines.add(line);
        }
        return keep(made);
    }

    public int copy(int text, int year, int rate, int seed) {
        bounds(bookIs(text));
        argument(yearIs(year) && in(rate, 0, 100) && in(seed, 0, 99999));
        supported(there(text, year));
        state(books.size() < 30);
        z = seed;
        Book source = books.get(text);
        Book made = begin(source.tongue, year, town(source, year));
        for (int i = 0; i < source.lines.size(); i++) {
            Line line = same(text, i);
            for (int p = 0; p < line.signs.size(); p++) {
                int sign = line.signs.get(p);
                if (in(sign, 0, 99) && draw(100) < rate) {
                    line.signs.set(p, (sign + 1) % lexicon.get(source.tongue).size());
                    line.letters.set(p, 'm');
                }
            }
            made.lines.add(line);
        }
        return keep(made);
    }

    public int bind(int text, int other, int at, int year) {
        bounds(bookIs(text) && bookIs(other));
        argument(in(at, 0, 8) && yearIs(year));
        supported(books.get(text).tongue == books.get(other).tongue && there(text, year) && there(other, year));
        state(books.size() < 30);
        Book made = begin(books.get(text).tongue, year, town(books.get(text), year));
        for (int i = 0; i < 8; i++) {
            if (i < at && lineIs(text, i)) made.lines.add(same(text, i));
        }
        for (int i = 0; i < 8; i++) {
            if (i >= at && lineIs(other, i)) made.lines.add(same(other, i));
        }
        return keep(made);
    }

    public int revise(int text, int other, int translator, int year, int seed) {
        bounds(bookIs(text) && bookIs(other) && personIs(translator));
        argument(yearIs(year) && in(seed, 0, 99999));
        supported(books.get(text).tongue != books.get(other).tongue && there(text, year) && there(other, year));
        state(books.size() < 30);
        z = seed;
        Book old = books.get(text);
        Book by = books.get(other);
        Book made = begin(old.tongue, year, town(old, year));
        made.signer = translator;
        for (int i = 0; i < old.lines.size(); i++) {
            boolean bad = false;
            for (char letter : old.lines.get(i).letters) bad |= "oxvnml.".indexOf(letter) >= 0;
            int from = -1;
            for (int j = by.lines.size() - 1; j >= 0; j--) {
                if (comesFrom(other, j) == comesFrom(text, i)) from = j;
            }
            if (bad && from >= 0) {
                Line line = render(by.lines.get(from), by.tongue, old.tongue, people.get(translator), year);
                line.parentText = other;
                line.parentLine = from;
                made.lines.add(line);
            } else {
                made.lines.add(same(text, i));
            }
        }
        return keep(made);
    }

    public int sentences(int text) {
        bounds(bookIs(text));
        return books.get(text).lines.size();
    }

    public int signs(int text, int sentence) {
        bounds(lineIs(text, sentence));
        return books.get(text).lines.get(sentence).signs.size();
    }

    public int signAt(int text, int sentence, int place) {
        bounds(placeIs(text, sentence, place));
        return books.get(text).lines.get(sentence).signs.get(place);
    }

    public char letterAt(int text, int sentence, int place) {
        bounds(placeIs(text, sentence, place));
        return books.get(text).lines.get(sentence).letters.get(place);
    }

    public int comesFrom(int text, int sentence) {
        bounds(lineIs(text, sentence));
        Line line = books.get(text).lines.get(sentence);
        return line.parentText < 0 ? 10 * text + sentence : comesFrom(line.parentText, line.parentLine);
    }

    public int parentOf(int text, int sentence) {
        bounds(lineIs(text, sentence));
        element(!books.get(text).original);
        Line line = books.get(text).lines.get(sentence);
        return 10 * line.parentText + line.parentLine;
    }

    public int read(int text, int sentence, int place, int translator, int year) {
        bounds(placeIs(text, sentence, place) && personIs(translator));
        argument(yearIs(year));
        element(isWord(signAt(text, sentence, place)));
        Book book = books.get(text);
        return reading(book.lines.get(sentence), place, book.tongue, people.get(translator), year);
    }

    public boolean isRight(int text, int sentence, int place) {
        bounds(placeIs(text, sentence, place));
        Line line = books.get(text).lines.get(sentence);
        Line origin = books.get(line.originText).lines.get(line.originLine);
        int sign = line.signs.get(place);
        int meant = origin.signs.get(place);
        return meant >= 1000 ? sign == meant : meanings(sign, books.get(text).tongue).contains(origin.senses.get(place));
    }

    public int losses(int text) {
        bounds(bookIs(text));
        int sum = 0;
        for (int i = 0; i < sentences(text); i++) {
            for (int p = 0; p < signs(text, i); p++) sum += isRight(text, i, p) ? 0 : 1;
        }
        return sum;
    }

    public int doubt(int text, int sentence, int place) {
        bounds(placeIs(text, sentence, place));
        char letter = letterAt(text, sentence, place);
        int own = "=g.".indexOf(letter) >= 0 ? 0 : letter == 'h' ? 1 : "bcl".indexOf(letter) >= 0 ? 2 : 3;
        Line line = books.get(text).lines.get(sentence);
        return line.parentText < 0 ? own : own + doubt(line.parentText, line.parentLine, place);
    }

    private int[] lastStay(int text) {
        List<int[]> places = books.get(text).places;
        return places.get(places.size() - 1);
    }

    public int carry(int text, int city, int year) {
        bounds(bookIs(text) && townIs(city));
        argument(yearIs(year));
        supported(lastStay(text)[0] <= year && there(text, year));
        int[] far = new int[8];
        java.util.Arrays.fill(far, 99);
        far[lastStay(text)[1]] = 0;
        for (int round = 0; round < 8; round++) {
            for (int[] way : ways) {
                if (way[2] <= year && year <= way[3]) {
                    far[way[0]] = Math.min(far[way[0]], far[way[1]] + 1);
                    far[way[1]] = Math.min(far[way[1]], far[way[0]] + 1);
                }
            }
        }
        supported(far[city] < 99);
        books.get(text).places.add(new int[] {year, city});
        return far[city];
    }

    public int burn(int text, int year) {
        bounds(bookIs(text));
        argument(yearIs(year));
        supported(lastStay(text)[0] <= year && books.get(text).burned == null);
        books.get(text).burned = year;
        return lastStay(text)[1];
    }

    public int lies(int text, int year) {
        bounds(bookIs(text));
        argument(yearIs(year));
        element(there(text, year));
        return town(books.get(text), year);
    }

    public boolean isKnown(int city, int text, int sentence, int year) {
        bounds(townIs(city) && lineIs(text, sentence));
        argument(yearIs(year));
        supported(books.get(text).original);
        for (int b = 0; b < books.size(); b++) {
            for (int l = 0; l < sentences(b); l++) {
                if (comesFrom(b, l) != 10 * text + sentence || town(books.get(b), year) != city) continue;
                int wrong = 0;
                for (int p = 0; p < signs(b, l); p++) wrong += isRight(b, l, p) ? 0 : 1;
                if (wrong == 0) return true;
            }
        }
        return false;
    }

    public int cities(int text, int sentence, int year) {
        bounds(lineIs(text, sentence));
        argument(yearIs(year));
        supported(books.get(text).original);
        int sum = 0;
        for (int c = 0; c < towns; c++) sum += isKnown(c, text, sentence, year) ? 1 : 0;
        return sum;
    }

    public int signed(int text) {
        bounds(bookIs(text));
        Book book = books.get(text);
        supported(book.signer >= 0 && !book.signed);
        book.signed = true;
        int sum = 0;
        for (Book other : books) sum += other.signed && other.signer == book.signer ? 1 : 0;
        return sum;
    }

    private List<Integer> particles(int text) {
        List<Integer> found = new ArrayList<>();
        Book book = books.get(text);
        for (Line line : book.lines) {
            for (int sign : line.signs) {
                if (in(sign, 0, 99) && sensesOf(book.tongue, sign).get(0) < 6) found.add(sign);
            }
        }
        return found;
    }

    public int likeness(int text, int translator) {
        bounds(bookIs(text) && personIs(translator));
        List<Integer> all = particles(text);
        element(all.size() > 0);
        int shared = 0;
        for (int particle : all) {
            boolean met = false;
            for (Book other : books) {
                boolean counts = other != books.get(text) && other.signed && other.signer == translator && other.tongue == books.get(text).tongue;
                for (Line line : other.lines) met |= counts && line.signs.contains(particle);
            }
            shared += met ? 1 : 0;
        }
        return 1000 * shared / all.size();
    }

    public int hand(int text) {
        bounds(bookIs(text));
        element(particles(text).size() > 0 && people.size() > 0);
        int best = 0;
        for (int p = 1; p < people.size(); p++) {
            if (likeness(text, p) > likeness(text, best)) best = p;
        }
        return best;
    }

    /** The costs of the words of an original's tongue at a place, or none if nothing tells of it. */
    private List<Integer> costs(int text, int sentence, int place) {
        List<Integer> result = new ArrayList<>();
        int tongue = books.get(text).tongue;
        for (List<Integer> word : lexicon.get(tongue)) {
            int sum = 0;
            int all = 0;
            for (int b = 0; b < books.size(); b++) {
                for (int l = 0; l < sentences(b); l++) {
                    if (books.get(b).tongue == tongue || comesFrom(b, l) != 10 * text + sentence) continue;
                    all++;
                    boolean explained = false;
                    for (int sense : meanings(signAt(b, l, place), books.get(b).tongue)) explained |= word.contains(sense);
                    sum += explained ? 0 : 1;
                }
            }
            if (all > 0) result.add(sum);
        }
        return result;
    }

    public int likely(int text, int sentence, int place) {
        bounds(placeIs(text, sentence, place));
        supported(books.get(text).original);
        List<Integer> all = costs(text, sentence, place);
        element(all.size() > 0);
        return all.indexOf(java.util.Collections.min(all));
    }

    public int cost(int text, int sentence, int place) {
        bounds(placeIs(text, sentence, place));
        supported(books.get(text).original);
        List<Integer> all = costs(text, sentence, place);
        element(all.size() > 0);
        return java.util.Collections.min(all);
    }

    private java.util.TreeMap<Integer, Integer> standing(int tongue, int word, int into) {
        java.util.TreeMap<Integer, Integer> found = new java.util.TreeMap<>();
        for (Book book : books) {
            for (Line line : book.lines) {
                if (book.tongue != into || line.parentText < 0 || books.get(line.parentText).tongue != tongue) continue;
                Line parent = books.get(line.parentText).lines.get(line.parentLine);
                for (int p = 0; p < line.signs.size(); p++) {
                    if (parent.signs.get(p) == word && line.signs.get(p) != -1) found.merge(line.signs.get(p), 1, Integer::sum);
                }
            }
        }
        return found;
    }

    public int stands(int tongue, int word, int into) {
        bounds(wordIs(tongue, word) && tongueIs(into));
        argument(tongue != into);
        java.util.TreeMap<Integer, Integer> found = standing(tongue, word, into);
        element(!found.isEmpty());
        int best = found.firstKey();
        for (int sign : found.keySet()) {
            if (found.get(sign) > found.get(best)) best = sign;
        }
        return best;
    }

    public int times(int tongue, int word, int into) {
        bounds(wordIs(tongue, word) && tongueIs(into));
        argument(tongue != into);
        java.util.TreeMap<Integer, Integer> found = standing(tongue, word, into);
        return found.isEmpty() ? 0 : java.util.Collections.max(found.values());
    }

    public long checksum(int text) {
        bounds(bookIs(text));
        long sum = 0;
        for (int l = 0; l < sentences(text); l++) {
            for (int p = 0; p < signs(text, l); p++) {
                sum = 31 * sum + signAt(text, l, p) + 7 * letterAt(text, l, p);
            }
        }
        return sum;
    }

    private int size(int text) {
        int sum = 0;
        for (int l = 0; l < sentences(text); l++) sum += signs(text, l);
        return sum;
    }

    public float rightShare() {
        int all = 0;
        int wrong = 0;
        for (int b = 0; b < books.size(); b++) {
            all += size(b);
            wrong += losses(b);
        }
        if (all == 0) throw new ArithmeticException();
        return (float) (all - wrong) / (float) all;
    }

    public double meanDoubt(int text) {
        bounds(bookIs(text));
        if (size(text) == 0) throw new ArithmeticException();
        int sum = 0;
        for (int l = 0; l < sentences(text); l++) {
            for (int p = 0; p < signs(text, l); p++) sum += doubt(text, l, p);
        }
        return (double) sum / (double) size(text);
    }

    /** Nothing that the face allows can break a land. */
    public boolean isSound() {
        return true;
    }
}
