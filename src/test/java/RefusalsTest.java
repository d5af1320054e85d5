/** Of every call: what it refuses by STATE and FULL, and which of several refusals comes first. */
public final class RefusalsTest {
    private static final int UNKNOWN = NamedWind.UNKNOWN, OUTSIDE = NamedWind.OUTSIDE;
    private static final int STATE = NamedWind.STATE, FULL = NamedWind.FULL, NONE = NamedWind.NONE;

    public static void main(String[] args) {
        noBookYet();
        noWakeYet();
        noImageYet();
        aBookReadSince();
        noShipYet();
        nothingToCall();
        noBookOnThePage();
        noPlaceLeft();
        unknownFirst();
        unknownAheadOfOutside();
        outsideFirst();
        stateFirst();
        manyAtOnce();
        Check.end();
    }

    private static void refused(String says, Twins.Maker sea, Twins.Asked call, int number) {
        Check.sentence(says);
        Twins.refused(says, sea, call, number);
    }

    private static void noBookYet() {
        refused("tenths: STATE: no BOOK", Twins::noBook, x -> x.tenths(0, 0), STATE);
        refused("tenths of a CALM: STATE: no BOOK", Twins::noBook, x -> x.tenths(4, 2), STATE);
        refused("windOf: STATE: no BOOK", Twins::noBook, x -> x.windOf(5), STATE);
        refused("ship: STATE: no BOOK", Twins::noBook, x -> x.ship(4, 9), STATE);
        refused("blow: STATE: no BOOK", Twins::noBook, x -> x.blow(0), STATE);
        refused("blow of a CALM: STATE: no BOOK", Twins::noBook, x -> x.blow(4), STATE);
        refused("tells: STATE: no BOOK", Twins::noBook, NamedWind::tells, STATE);
        refused("years: STATE: no BOOK", Twins::noBook, x -> x.years(1, 0, 3), STATE);
        refused("image: STATE: no BOOK", Twins::noBook, NamedWind::image, STATE);
        refused("restore: STATE: none was kept (no BOOK)", Twins::noBook, NamedWind::restore, STATE);
        refused("then: STATE: no WAKE (no BOOK)", Twins::noBook, x -> x.then(0), STATE);
        refused("called: STATE: no WAKE (no BOOK)", Twins::noBook, NamedWind::called, STATE);
        refused("by: STATE: no WAKE (no BOOK)", Twins::noBook, x -> x.by(0), STATE);
    }

    private static void noWakeYet() {
        refused("then: STATE: no WAKE was begun", Twins::ships, x -> x.then(0), STATE);
        refused("called: STATE: no WAKE was begun", Twins::ships, NamedWind::called, STATE);
        refused("by: STATE: no WAKE was begun", Twins::ships, x -> x.by(0), STATE);
        Twins.Maker restored = () -> {
            NamedWind x = Twins.full();
            x.restore();
            return x;
        };
        refused("restore: no WAKE was begun: then", restored, x -> x.then(0), STATE);
        refused("restore: no WAKE was begun: called", restored, NamedWind::called, STATE);
        refused("restore: no WAKE was begun: by", restored, x -> x.by(0), STATE);
        Twins.Maker anotherBook = () -> anotherBookOn(Twins.full());
        refused("book: WAKES are gone: then", anotherBook, x -> x.then(0), STATE);
        refused("book: WAKES are gone: called", anotherBook, NamedWind::called, STATE);
        refused("book: WAKES are gone: by", anotherBook, x -> x.by(0), STATE);
    }

    private static NamedWind anotherBookOn(NamedWind x) {
        x.blank();
        Check.write(x, Twins.BOOK);
        Check.due("the same book again", x.book(), 4);
        return x;
    }

    private static void noImageYet() {
        refused("restore: STATE: none was kept", Twins::ships, NamedWind::restore, STATE);
        refused("restore: STATE: none was kept (no SHIPS)", Twins::onlyBook, NamedWind::restore, STATE);
    }

    private static void aBookReadSince() {
        Twins.Maker since = () -> anotherBookOn(Twins.full());
        refused("restore: STATE: a BOOK was read since (of the same text, too)", since, NamedWind::restore, STATE);
        refused("and again: STATE", () -> {
            NamedWind x = since.make();
            x.restore();
            x.ship(0, 0);
            return x;
        }, NamedWind::restore, STATE);
    }

    private static void noShipYet() {
        for (Twins.Maker sea : new Twins.Maker[] {Twins::noBook, Twins::onlyBook}) {
            refused("about: UNKNOWN: no ship yet", sea, x -> x.about(0, 0), UNKNOWN);
            refused("as: UNKNOWN: no ship yet", sea, x -> x.as(0, 0), UNKNOWN);
            refused("call: UNKNOWN: no ship yet", sea, x -> x.call(0, NONE), UNKNOWN);
            refused("likely: UNKNOWN: no ship yet", sea, x -> x.likely(0, 1, 0), UNKNOWN);
            refused("what: UNKNOWN: no ship yet", sea, x -> x.what(0, 0, 1), UNKNOWN);
            refused("sure: UNKNOWN: no ship yet", sea, x -> x.sure(0), UNKNOWN);
            refused("race: UNKNOWN: no ship yet", sea, x -> x.race(0, 1, 1, 0), UNKNOWN);
            refused("wake: UNKNOWN: no ship yet", sea, x -> x.wake(0, 0), UNKNOWN);
        }
        Twins.Maker one = () -> Check.seaWith(Twins.BOOK, 0, 9);
        refused("race: UNKNOWN: b, the first one is HOME", one, x -> x.race(0, 1, 1, 0), UNKNOWN);
        refused("race: UNKNOWN: a, the second one is HOME", one, x -> x.race(1, 0, 1, 0), UNKNOWN);
        refused("race: UNKNOWN: they are the same", one, x -> x.race(0, 0, 1, 0), UNKNOWN);
        Twins.Maker gone = () -> {
            NamedWind x = Twins.ships();
            x.image();
            x.ship(0, 5);
            x.restore();
            return x;
        };
        refused("restore: those that come since are gone", gone, x -> x.about(5, 0), UNKNOWN);
        refused("restore: those that come since call nothing", gone, x -> x.call(5, NONE), UNKNOWN);
    }

    private static void nothingToCall() {
        refused("call: STATE: it is HOME", Twins::ships, x -> x.call(2, 0), STATE);
        refused("call: STATE: it is HOME (none)", Twins::ships, x -> x.call(2, NONE), STATE);
        refused("call: STATE: the NAME is SPENT", Twins::full, x -> x.call(5, 0), STATE);
        refused("call: STATE: the NAME is SPENT (by it, too)", Twins::full, x -> x.call(5, 5), STATE);
        refused("call: STATE: the NAME is SPENT (for a MASTER)", Twins::full, x -> x.call(0, 5), STATE);
        refused("call: STATE: it is HOME, and the NAME is SPENT", Twins::full, x -> x.call(4, 5), STATE);
    }

    private static void noBookOnThePage() {
        String[] pages = {"", "0", "-:000", "-:000/-:000/-:000", "-:000/-:000/-:000/", "-:000/-:000/-:000/-",
            "-:000/-:000/-:000/-:", "-:000/-:000/-:000/-:0", "-:000/-:000/-:000/-:00", "-:000/-:000/-:000/-:0000",
            "-:000/-:000/-:000/-:000/", "0:000/-:000/-:000/0:000", "-:900/-:200/-:000/-:000", "012:000/-:000/-:000/-:000"};
        for (String page : pages) {
            Twins.Maker onFull = () -> {
                NamedWind x = Twins.full();
                x.blank();
                Check.write(x, page);
                return x;
            };
            refused("book: STATE: it is none: " + page, onFull, NamedWind::book, STATE);
            refused("book: STATE: it is none, and none was: " + page, () -> {
                NamedWind x = new NamedWind();
                Check.write(x, page);
                return x;
            }, NamedWind::book, STATE);
        }
    }

    private static void noPlaceLeft() {
        refused("letters: FULL: above 30", Twins::full, x -> x.letters('a'), FULL);
        refused("letters: FULL: above 30 by eight", Twins::full, x -> x.letters(Check.packed("abcdefgh", 0)), FULL);
        refused("ship: FULL: 6 at most", Twins::full, x -> x.ship(0, 0), FULL);
        refused("ship: FULL: 6 at most (one that is HOME)", Twins::full, x -> x.ship(4, 9), FULL);
        refused("then: FULL: 6 at most", Twins::full, x -> x.then(9), FULL);
        refused("then: FULL: 6 at most (the place of before)", Twins::full, x -> x.then(8), FULL);
    }

    private static void unknownFirst() {
        refused("tenths: UNKNOWN: wind, ahead of STATE", Twins::noBook, x -> x.tenths(5, 0), UNKNOWN);
        refused("tenths: UNKNOWN: sign, ahead of STATE", Twins::noBook, x -> x.tenths(0, 3), UNKNOWN);
        refused("windOf: UNKNOWN, ahead of STATE", Twins::noBook, x -> x.windOf(6), UNKNOWN);
        refused("windOf: UNKNOWN (NONE), ahead of STATE", Twins::noBook, x -> x.windOf(NONE), UNKNOWN);
        refused("ship: UNKNOWN, ahead of OUTSIDE", Twins::ships, x -> x.ship(5, 10), UNKNOWN);
        refused("ship: UNKNOWN, ahead of STATE", Twins::noBook, x -> x.ship(0, 10), UNKNOWN);
        refused("ship: UNKNOWN, ahead of FULL", Twins::full, x -> x.ship(0, 10), UNKNOWN);
        refused("call: UNKNOWN: ship, ahead of STATE", Twins::full, x -> x.call(6, 5), UNKNOWN);
        refused("call: UNKNOWN: name, ahead of STATE", Twins::full, x -> x.call(4, 6), UNKNOWN);
        refused("blow: UNKNOWN, ahead of STATE", Twins::noBook, x -> x.blow(5), UNKNOWN);
        refused("then: UNKNOWN, ahead of FULL", Twins::full, x -> x.then(10), UNKNOWN);
    }

    private static void unknownAheadOfOutside() {
        refused("about: UNKNOWN, ahead of OUTSIDE", Twins::ships, x -> x.about(5, 5), UNKNOWN);
        refused("as: UNKNOWN, ahead of OUTSIDE", Twins::ships, x -> x.as(5, 5), UNKNOWN);
        refused("likely: UNKNOWN, ahead of OUTSIDE: days", Twins::ships, x -> x.likely(5, 5, 0), UNKNOWN);
        refused("likely: UNKNOWN, ahead of OUTSIDE: part", Twins::ships, x -> x.likely(5, 1, 2), UNKNOWN);
        refused("what: UNKNOWN: ship, ahead of OUTSIDE", Twins::ships, x -> x.what(5, 0, 5), UNKNOWN);
        refused("what: UNKNOWN: sign, ahead of OUTSIDE", Twins::ships, x -> x.what(0, 3, 5), UNKNOWN);
        refused("race: UNKNOWN: a, ahead of OUTSIDE", Twins::ships, x -> x.race(5, 0, 7, 0), UNKNOWN);
        refused("race: UNKNOWN: b, ahead of OUTSIDE", Twins::ships, x -> x.race(0, 5, 0, 0), UNKNOWN);
        refused("race: UNKNOWN: the same, ahead of OUTSIDE: days", Twins::ships, x -> x.race(3, 3, 7, 0), UNKNOWN);
        refused("race: UNKNOWN: the same, ahead of OUTSIDE: part", Twins::ships, x -> x.race(3, 3, 1, 2), UNKNOWN);
    }

    private static void outsideFirst() {
        refused("letters: OUTSIDE: above 126, ahead of FULL", Twins::full, x -> x.letters(127), OUTSIDE);
        refused("letters: OUTSIDE: behind a 0, ahead of FULL", Twins::full, x -> x.letters(0x610061L), OUTSIDE);
        refused("ship: OUTSIDE, ahead of STATE", Twins::noBook, x -> x.ship(5, 0), OUTSIDE);
        refused("ship: OUTSIDE, ahead of FULL", Twins::full, x -> x.ship(5, 0), OUTSIDE);
        refused("years: OUTSIDE: days, ahead of STATE", Twins::noBook, x -> x.years(61, 0, 0), OUTSIDE);
        refused("years: OUTSIDE: seed, ahead of STATE", Twins::noBook, x -> x.years(1, -1, 0), OUTSIDE);
        refused("years: OUTSIDE: what, ahead of STATE", Twins::noBook, x -> x.years(1, 0, 4), OUTSIDE);
    }

    private static void stateFirst() {
        refused("then: STATE, ahead of UNKNOWN", Twins::ships, x -> x.then(10), STATE);
        refused("by: STATE, ahead of UNKNOWN", Twins::ships, x -> x.by(-1), STATE);
        refused("by: UNKNOWN: a WAKE of no DAYS", () -> {
            NamedWind x = Twins.ships();
            x.wake(0, 4);
            return x;
        }, x -> x.by(0), UNKNOWN);
    }

    /** Many refused calls one behind the other change nothing neither. */
    private static void manyAtOnce() {
        refused("they change nothing", Twins::full, x -> {
            x.letters(-1);
            x.book();
            x.ship(0, 0);
            x.call(5, 5);
            x.call(4, NONE);
            x.call(0, 9);
            x.blow(-1);
            x.wake(0, 10);
            x.wake(6, 0);
            x.then(0);
            x.years(0, -1, 9);
            return x.count(9);
        }, OUTSIDE);
    }
}
