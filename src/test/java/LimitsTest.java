/** Of every number that a call takes: its least and its greatest are good, those beyond are refused. */
public final class LimitsTest {
    private static final int UNKNOWN = NamedWind.UNKNOWN, OUTSIDE = NamedWind.OUTSIDE, FULL = NamedWind.FULL;

    interface Asked {
        long of(NamedWind x, int number);
    }

    public static void main(String[] args) {
        ofTheBook();
        ofShips();
        ofCalls();
        ofForecasts();
        ofRaces();
        ofWhatIsToldBack();
        ofYears();
        Check.end();
    }

    /** Numbers from the least to the most are not refused; all others are, and change nothing. */
    private static void limits(String says, int refusal, Twins.Maker sea, int least, int most, Asked call) {
        Check.sentence(says);
        for (long good : new long[] {least, least + 1L, most - 1L, most}) {
            int number = (int) Math.max(least, Math.min(most, good));
            long answer = call.of(sea.make(), number);
            Check.holds(number + " is good, and answers " + answer, answer > UNKNOWN || answer < FULL);
        }
        long[] beyond = {least - 1L, most + 1L, least - 2L, most + 2L, most + 8L, 100, 256L + least, 65536L + most,
            least - 256L, Integer.MAX_VALUE, Integer.MAX_VALUE - 1L, Integer.MIN_VALUE, Integer.MIN_VALUE + 1L};
        for (long bad : beyond) {
            int number = (int) bad;
            if (number == bad && (bad < least || bad > most)) {
                Twins.refused("the number " + bad, sea, x -> call.of(x, number), refusal);
            }
        }
    }

    private static void ofTheBook() {
        limits("tenths: UNKNOWN: wind (WINDS 0 to 3, 4: a CALM)", UNKNOWN, Twins::full, 0, 4, (x, n) -> x.tenths(n, 2));
        limits("tenths: UNKNOWN: sign (SIGNS 0 to 2)", UNKNOWN, Twins::full, 0, 2, (x, n) -> x.tenths(4, n));
        limits("windOf: UNKNOWN (NAMES 0 to 5)", UNKNOWN, Twins::full, 0, 5, NamedWind::windOf);
    }

    private static void ofShips() {
        limits("ship: UNKNOWN: place (PLACES 0 to 9)", UNKNOWN, Twins::ships, 0, 9, (x, n) -> x.ship(4, n));
        limits("ship: OUTSIDE: kind (0 to 4)", OUTSIDE, Twins::ships, 0, 4, (x, n) -> x.ship(n, 9));
        limits("about: UNKNOWN (five SHIPS)", UNKNOWN, Twins::ships, 0, 4, (x, n) -> x.about(n, 4));
        limits("about: UNKNOWN (six SHIPS)", UNKNOWN, Twins::full, 0, 5, (x, n) -> x.about(n, 0));
        limits("about: OUTSIDE (what = 0 to 4)", OUTSIDE, Twins::full, 0, 4, (x, n) -> x.about(5, n));
        limits("as: UNKNOWN (five SHIPS)", UNKNOWN, Twins::ships, 0, 4, (x, n) -> x.as(n, 0));
        limits("as: OUTSIDE (KINDS 0 to 4)", OUTSIDE, Twins::ships, 0, 4, (x, n) -> x.as(4, n));
    }

    private static void ofCalls() {
        limits("call: UNKNOWN: ship", UNKNOWN, () -> Check.seaWith(Twins.BOOK, 0, 4, 4, 4), 0, 1, (x, n) -> x.call(n, 2));
        limits("call: UNKNOWN: name (NONE is good)", UNKNOWN, Twins::ships, -1, 5, (x, n) -> x.call(1, n));
        limits("call: UNKNOWN: name (of a MASTER)", UNKNOWN, Twins::ships, -1, 5, (x, n) -> x.call(4, n));
        limits("spent: UNKNOWN (NAMES 0 to 5)", UNKNOWN, Twins::full, 0, 5, NamedWind::spent);
        limits("blow: UNKNOWN: wind (0 to 4)", UNKNOWN, Twins::full, 0, 4, NamedWind::blow);
    }

    private static void ofForecasts() {
        limits("likely: UNKNOWN", UNKNOWN, Twins::ships, 0, 4, (x, n) -> x.likely(n, 4, 1));
        limits("likely: OUTSIDE: days (1 to 4)", OUTSIDE, Twins::full, 1, 4, (x, n) -> x.likely(0, n, 0));
        limits("likely: OUTSIDE: days (of who is HOME)", OUTSIDE, Twins::full, 1, 4, (x, n) -> x.likely(4, n, 0));
        limits("likely: OUTSIDE: part (0, 1)", OUTSIDE, Twins::full, 0, 1, (x, n) -> x.likely(5, 4, n));
        limits("what: UNKNOWN: ship", UNKNOWN, Twins::ships, 0, 4, (x, n) -> x.what(n, 2, 4));
        limits("what: UNKNOWN: sign (0 to 2)", UNKNOWN, Twins::full, 0, 2, (x, n) -> x.what(0, n, 4));
        limits("what: UNKNOWN: sign (of who is HOME)", UNKNOWN, Twins::full, 0, 2, (x, n) -> x.what(4, n, 1));
        limits("what: OUTSIDE: days (1 to 4)", OUTSIDE, Twins::full, 1, 4, (x, n) -> x.what(5, 2, n));
        limits("what: OUTSIDE: days (of who is HOME)", OUTSIDE, Twins::full, 1, 4, (x, n) -> x.what(4, 0, n));
        limits("sure: UNKNOWN", UNKNOWN, Twins::ships, 0, 4, NamedWind::sure);
    }

    private static void ofRaces() {
        Twins.Maker three = () -> Check.seaWith(Twins.BOOK, 0, 4, 1, 3, 4, 9);
        limits("race: UNKNOWN: a (2 is the second one)", UNKNOWN, three, 0, 1, (x, n) -> x.race(n, 2, 6, 0));
        limits("race: UNKNOWN: b (2 is the first one)", UNKNOWN, three, 0, 1, (x, n) -> x.race(2, n, 6, 0));
        limits("race: UNKNOWN: a (0 is the second one)", UNKNOWN, three, 1, 2, (x, n) -> x.race(n, 0, 1, 1));
        limits("race: UNKNOWN: b (0 is the first one)", UNKNOWN, three, 1, 2, (x, n) -> x.race(0, n, 1, 1));
        limits("race: OUTSIDE: days (1 to 6)", OUTSIDE, three, 1, 6, (x, n) -> x.race(0, 1, n, 1));
        limits("race: OUTSIDE: days (the first one is HOME)", OUTSIDE, three, 1, 6, (x, n) -> x.race(2, 1, n, 1));
        limits("race: OUTSIDE: days (the second one is HOME)", OUTSIDE, three, 1, 6, (x, n) -> x.race(0, 2, n, 0));
        limits("race: OUTSIDE: part (0, 1)", OUTSIDE, three, 0, 1, (x, n) -> x.race(1, 0, 6, n));
    }

    private static void ofWhatIsToldBack() {
        limits("guess: UNKNOWN (NAMES 0 to 5)", UNKNOWN, Twins::full, 0, 5, NamedWind::guess);
        limits("guess: UNKNOWN (without a BOOK, too)", UNKNOWN, Twins::noBook, 0, 5, NamedWind::guess);
        limits("spent: UNKNOWN (without a BOOK, too)", UNKNOWN, Twins::noBook, 0, 5, NamedWind::spent);
        limits("wake: UNKNOWN: ship", UNKNOWN, Twins::ships, 0, 4, (x, n) -> x.wake(n, 9));
        limits("wake: UNKNOWN: place (0 to 9)", UNKNOWN, Twins::full, 0, 9, (x, n) -> x.wake(5, n));
        limits("then: UNKNOWN: place (0 to 9)", UNKNOWN, LimitsTest::wakeOfThree, 0, 9, NamedWind::then);
        limits("by: UNKNOWN: day (from 0), of three", UNKNOWN, LimitsTest::wakeOfThree, 0, 2, NamedWind::by);
        limits("by: UNKNOWN: day (from 0), of six", UNKNOWN, Twins::full, 0, 5, NamedWind::by);
        limits("count: OUTSIDE (0 to 8)", OUTSIDE, Twins::full, 0, 8, NamedWind::count);
        limits("count: OUTSIDE (without a BOOK, too)", OUTSIDE, Twins::noBook, 0, 8, NamedWind::count);
    }

    private static NamedWind wakeOfThree() {
        NamedWind x = Twins.ships();
        x.wake(1, 4);
        x.then(5);
        x.then(4);
        x.then(9);
        return x;
    }

    private static void ofYears() {
        limits("years: OUTSIDE: days (1 to 60)", OUTSIDE, Twins::full, 1, 60, (x, n) -> x.years(n, 0, 3));
        limits("years: OUTSIDE: seed (0 at least)", OUTSIDE, Twins::full, 0, Integer.MAX_VALUE, (x, n) -> x.years(60, n, 3));
        limits("years: OUTSIDE: what (0 to 3)", OUTSIDE, Twins::full, 0, 3, (x, n) -> x.years(1, 5, n));
    }
}
