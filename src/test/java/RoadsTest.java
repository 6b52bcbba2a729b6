/** Promises 7, 8 and 34 to 38: city, road, carry, burn, lies, isKnown, cities. */
public final class RoadsTest {
    private static final Class<IndexOutOfBoundsException> BOUNDS = IndexOutOfBoundsException.class;
    private static final Class<IllegalArgumentException> ARGUMENT = IllegalArgumentException.class;
    private static final Class<UnsupportedOperationException> UNSUPPORTED = UnsupportedOperationException.class;
    private static final Class<IllegalStateException> STATE = IllegalStateException.class;
    private static final Class<java.util.NoSuchElementException> NONE = java.util.NoSuchElementException.class;

    public static void main(String[] args) {
        Check check = new Check();
        cityAndRoad(check);
        carry(check);
        burn(check);
        known(check);
        knownThroughOthers(check);
        check.end();
    }

    private static RelayedTongues land(int cities) {
        RelayedTongues land = new RelayedTongues();
        for (int i = 0; i < cities; i++) {
            land.city();
        }
        return land;
    }

    private static void cityAndRoad(Check check) {
        RelayedTongues land = new RelayedTongues();
        for (int i = 0; i < 8; i++) {
            check.due("city", i, () -> land.city());
        }
        check.dueThrow("city 9", STATE, () -> land.city());
        check.dueThrow("from city 8", BOUNDS, () -> land.road(8, 0, 0, 0));
        check.dueThrow("to city 8", BOUNDS, () -> land.road(0, 8, 9, 0));
        check.dueThrow("city -1", BOUNDS, () -> land.road(-1, -1, 0, 0));
        check.dueThrow("same", ARGUMENT, () -> land.road(3, 3, 0, 0));
        check.dueThrow("year -1", ARGUMENT, () -> land.road(3, 4, -1, 0));
        check.dueThrow("year 2001", ARGUMENT, () -> land.road(3, 4, 0, 2001));
        check.dueThrow("to earlier", ARGUMENT, () -> land.road(3, 4, 5, 4));
        check.due("road 1", 1, () -> land.road(3, 4, 0, 2000));
        for (int i = 2; i <= 20; i++) {
            check.due("road", i, () -> land.road(4, 3, 7, 7));
        }
        check.dueThrow("road 21", STATE, () -> land.road(3, 4, 0, 0));
        check.dueThrow("road 21 to itself", ARGUMENT, () -> land.road(3, 3, 0, 0));
    }

    private static void carry(Check check) {
        RelayedTongues land = land(8);
        for (int i = 0; i < 7; i++) {
            land.road(i + 1, i, 100, 200);
        }
        land.road(0, 3, 150, 160);
        land.original(0, 90, 0);
        check.dueThrow("text 1", BOUNDS, () -> land.carry(1, 0, 100));
        check.dueThrow("text -1", BOUNDS, () -> land.carry(-1, 0, 100));
        check.dueThrow("city 8", BOUNDS, () -> land.carry(0, 8, 2001));
        check.dueThrow("city -1", BOUNDS, () -> land.carry(0, -1, 100));
        check.dueThrow("year 2001", ARGUMENT, () -> land.carry(0, 0, 2001));
        check.dueThrow("year -1", ARGUMENT, () -> land.carry(0, 0, -1));
        check.dueThrow("before it was made", UNSUPPORTED, () -> land.carry(0, 0, 89));
        check.dueThrow("before the road opens", UNSUPPORTED, () -> land.carry(0, 1, 99));
        check.due("where it is", 0, () -> land.carry(0, 0, 90));
        check.due("along all roads", 7, () -> land.carry(0, 7, 100));
        check.dueThrow("not yet made", NONE, () -> land.lies(0, 89));
        check.due("lies at first", 0, () -> land.lies(0, 99));
        check.due("lies then", 7, () -> land.lies(0, 100));
        check.dueThrow("before it came there", UNSUPPORTED, () -> land.carry(0, 6, 99));
        check.due("back by the short way", 5, () -> land.carry(0, 0, 155));
        check.due("once more in that year", 1, () -> land.carry(0, 3, 155));
        check.due("the last counts", 3, () -> land.lies(0, 155));
        check.due("before", 7, () -> land.lies(0, 154));
        check.due("the short way is closed", 3, () -> land.carry(0, 0, 161));
        check.due("in the last year", 1, () -> land.carry(0, 1, 200));
        check.dueThrow("behind the last year", UNSUPPORTED, () -> land.carry(0, 2, 201));
        check.due("no road is needed", 0, () -> land.carry(0, 1, 2000));
        check.dueThrow("it came there then", UNSUPPORTED, () -> land.carry(0, 0, 200));
        check.due("lies in the end", 1, () -> land.lies(0, 2000));
        check.dueThrow("lies in 2001", ARGUMENT, () -> land.lies(0, 2001));
        check.dueThrow("lies in -1", ARGUMENT, () -> land.lies(0, -1));
        check.dueThrow("lies, text 1", BOUNDS, () -> land.lies(1, 0));
    }

    private static void burn(Check check) {
        RelayedTongues land = land(2);
        land.road(0, 1, 0, 2000);
        land.original(0, 90, 0);
        check.dueThrow("text 1", BOUNDS, () -> land.burn(1, 2001));
        check.dueThrow("text -1", BOUNDS, () -> land.burn(-1, 100));
        check.dueThrow("year 2001", ARGUMENT, () -> land.burn(0, 2001));
        check.dueThrow("year -1", ARGUMENT, () -> land.burn(0, -1));
        check.dueThrow("too early", UNSUPPORTED, () -> land.burn(0, 89));
        land.carry(0, 1, 100);
        check.dueThrow("it came there later", UNSUPPORTED, () -> land.burn(0, 99));
        check.due("burns", 1, () -> land.burn(0, 120));
        check.dueThrow("twice", UNSUPPORTED, () -> land.burn(0, 130));
        check.due("lies before", 1, () -> land.lies(0, 119));
        check.dueThrow("lies no more", NONE, () -> land.lies(0, 120));
        check.dueThrow("carried no more", UNSUPPORTED, () -> land.carry(0, 0, 120));
        check.due("carried before", 1, () -> land.carry(0, 0, 119));
        check.due("lies before", 0, () -> land.lies(0, 119));
        land.school('b');
        land.translator(0, 's');
        check.dueThrow("copied no more", UNSUPPORTED, () -> land.copy(0, 120, 0, 0));
        check.dueThrow("translated no more", UNSUPPORTED, () -> land.translate(0, 0, 1, 120, 0));
        check.due("copied before", 1, () -> land.copy(0, 118, 0, 0));
        check.due("the copy lies where it lay then", 1, () -> land.lies(1, 2000));
        check.due("burned in the year it came", 1, () -> land.burn(1, 118));
        check.dueThrow("it never lay", NONE, () -> land.lies(1, 118));
    }

    private static void known(Check check) {
        RelayedTongues land = land(3);
        land.road(0, 1, 0, 2000);
        land.word(0, 1);
        land.original(0, 100, 0);
        check.dueThrow("no sentence", BOUNDS, () -> land.isKnown(0, 0, 0, 100));
        land.sentence(0, 'p');
        land.say(0, 0, 0);
        check.due("not yet", false, () -> land.isKnown(0, 0, 0, 99));
        check.due("then", true, () -> land.isKnown(0, 0, 0, 100));
        check.due("not there", false, () -> land.isKnown(1, 0, 0, 100));
        check.dueThrow("city 3", BOUNDS, () -> land.isKnown(3, 0, 0, 2001));
        check.dueThrow("text 1", BOUNDS, () -> land.isKnown(0, 1, 0, 100));
        check.dueThrow("sentence 1", BOUNDS, () -> land.isKnown(0, 0, 1, 100));
        check.dueThrow("sentence -1", BOUNDS, () -> land.isKnown(0, 0, -1, 100));
        check.dueThrow("year 2001", ARGUMENT, () -> land.isKnown(0, 0, 0, 2001));
        check.dueThrow("year -1", ARGUMENT, () -> land.isKnown(0, 0, 0, -1));
        land.copy(0, 110, 0, 0);
        check.dueThrow("a copy", UNSUPPORTED, () -> land.isKnown(0, 1, 0, 110));
        check.dueThrow("a copy, year 2001", ARGUMENT, () -> land.isKnown(0, 1, 0, 2001));
        check.dueThrow("cities: text 2", BOUNDS, () -> land.cities(2, 0, 110));
        check.dueThrow("cities: sentence 1", BOUNDS, () -> land.cities(0, 1, 2001));
        check.dueThrow("cities: year 2001", ARGUMENT, () -> land.cities(1, 0, 2001));
        check.dueThrow("cities: a copy", UNSUPPORTED, () -> land.cities(1, 0, 110));
        check.due("one city", 1, () -> land.cities(0, 0, 110));
        land.carry(1, 1, 120);
        check.due("still one", 1, () -> land.cities(0, 0, 119));
        check.due("two", 2, () -> land.cities(0, 0, 120));
        land.burn(0, 130);
        check.due("one again", 1, () -> land.cities(0, 0, 130));
        check.due("burned there", false, () -> land.isKnown(0, 0, 0, 130));
        check.due("but not here", true, () -> land.isKnown(1, 0, 0, 130));
        check.due("known before", true, () -> land.isKnown(0, 0, 0, 129));
    }

    private static void knownThroughOthers(Check check) {
        RelayedTongues land = land(2);
        land.road(0, 1, 0, 2000);
        land.word(0, 1);
        land.word(0, 2);
        land.original(0, 100, 0);
        land.sentence(0, 'p');
        land.say(0, 0, 0);
        land.sentence(0, 'p');
        land.sentence(0, 'p');
        land.say(0, 1, 0);
        land.say(0, 1, 0);
        // All words become the word behind them.
        land.copy(0, 100, 100, 0);
        land.carry(1, 1, 101);
        check.due("a wrong copy does not tell", false, () -> land.isKnown(1, 0, 0, 101));
        check.due("an empty sentence is right", true, () -> land.isKnown(1, 0, 1, 101));
        check.due("nor here", false, () -> land.isKnown(1, 0, 2, 101));
        land.sense(0, 1, 1);
        check.due("the word behind has the sense now", true, () -> land.isKnown(1, 0, 0, 101));
        land.bind(1, 0, 2, 100);
        land.carry(2, 1, 102);
        check.due("the volume has it right", true, () -> land.isKnown(1, 0, 2, 102));
        check.due("but not before", false, () -> land.isKnown(1, 0, 2, 101));
        check.due("cities", 2, () -> land.cities(0, 2, 102));
    }
}
