import java.util.ArrayList;
import java.util.List;

/** Seas that are made twice in the same way: one is asked what it must refuse, the other one is not. */
final class Twins {
    /** No calms; names 4 and 5 are of no wind. */
    static final String BOOK = "01:903/2:053/-:053/3:101";

    interface Maker {
        NamedWind make();
    }

    interface Asked {
        long of(NamedWind x);
    }

    private Twins() {
    }

    /** No book, and three letters that could begin one. */
    static NamedWind noBook() {
        NamedWind x = new NamedWind();
        Check.write(x, "01:");
        return x;
    }

    static NamedWind onlyBook() {
        return Check.seaOf(BOOK);
    }

    /** One ship of each kind, one of them home; nobody calls, nothing is spent, nothing was begun. */
    static NamedWind ships() {
        return Check.seaWith(BOOK, 0, 4, 1, 3, 2, 9, 3, 5, 4, 2);
    }

    /** All there can be: ships, answers, days of a wake, letters; names that are spent, calls, an image. */
    static NamedWind full() {
        NamedWind x = Check.seaWith(BOOK, 4, 4, 4, 4, 4, 4, 4, 4, 0, 9, 1, 3);
        x.call(5, 0);
        x.image();
        for (int day = 0; day < 10; day++) {
            for (int ship = 0; ship < 4; ship++) {
                x.call(ship, 1 + (ship + day) % 5);
            }
            x.blow(day % 4);
        }
        x.call(5, 5);
        x.call(0, 1);
        x.wake(5, 2);
        for (int place = 3; place < 9; place++) {
            x.then(place);
        }
        Check.write(x, "01:903/2:053/-:053/3:101......");
        return x;
    }

    /** A call is refused with this number, and leaves everything as it was. */
    static void refused(String what, Maker maker, Asked call, int number) {
        NamedWind asked = maker.make();
        NamedWind other = maker.make();
        Check.due(what, call.of(asked), number);
        List<Long> got = all(asked);
        List<Long> want = all(other);
        for (int i = 0; i < want.size(); i++) {
            Check.due(what + " changes nothing: " + i, got.get(i), want.get(i));
        }
    }

    /** What all calls tell now, and what they tell when they go on from here. */
    private static List<Long> all(NamedWind x) {
        List<Long> told = new ArrayList<>();
        tell(x, told);
        for (int day = 0; day < 6; day++) {
            told.add((long) x.by(day));
        }
        for (int what = 0; what < 4; what++) {
            told.add((long) x.years(9, 77, what));
        }
        told.add((long) x.then(4));
        told.add((long) x.letters('0'));
        told.add((long) x.blow(1));
        tell(x, told);
        told.add((long) x.restore());
        tell(x, told);
        told.add((long) x.blank());
        return told;
    }

    private static void tell(NamedWind x, List<Long> told) {
        for (int what = 0; what < 9; what++) {
            told.add((long) x.count(what));
        }
        for (int name = 0; name < 6; name++) {
            told.add((long) x.windOf(name));
            told.add((long) x.spent(name));
            told.add((long) x.guess(name));
        }
        for (int i = 0; i < 15; i++) {
            told.add((long) x.tenths(i / 3, i % 3));
        }
        for (int i = 0; i < 30; i++) {
            told.add((long) x.about(i / 5, i % 5));
        }
        told.add((long) x.called());
        told.add((long) x.fault());
        told.add(x.digest());
    }
}
