/** Promises 26 to 29: images, counts and digests. */
public final class WholeTest {
    private static final int OUTSIDE = NamedWind.OUTSIDE, UNKNOWN = NamedWind.UNKNOWN;
    private static final int STATE = NamedWind.STATE, NONE = NamedWind.NONE;
    private static final String BOOK = "01:903/2:053/-:053/3:101";

    public static void main(String[] args) {
        images();
        imagesKeepAll();
        theLatestImage();
        imagesRefused();
        counts();
        digests();
        digestsTell();
        Check.end();
    }

    /** Promises 26 and 27. */
    private static void images() {
        NamedWind x = Check.seaOf(BOOK);
        Check.due("of no ships", x.image(), 0);
        x.ship(0, 3);
        Check.due("they are gone", x.restore(), 0);
        Check.due("counted", x.count(1), 0);
        Check.due("no such ship", x.about(0, 0), UNKNOWN);
        Check.due("its number comes again", x.ship(4, 5), 0);
        Check.due("as another one", x.about(0, 0), 4);
        Check.due("of one ship", x.image(), 1);
        Check.due("again", x.image(), 1);
        Check.due("nothing since", x.restore(), 1);
        Check.due("as often as wanted", x.restore(), 1);
    }

    private static void imagesKeepAll() {
        NamedWind x = Check.seaOf(BOOK);
        x.ship(0, 3);
        x.ship(1, 3);
        x.call(0, 0);
        x.call(1, 2);
        x.blow(0);
        x.call(0, 1);
        Check.write(x, "01:");
        x.wake(0, 3);
        x.then(5);
        x.image();
        Check.due("an image changes nothing", x.about(0, 2), 1);
        Check.due("nor the wake", x.count(6), 1);
        x.blow(3);
        x.moon();
        x.call(1, 3);
        x.ship(3, 9);
        x.blow(3);
        x.letters('9');
        Check.due("restore", x.restore(), 2);
        int[][] want = {{0, 5, NONE, 1, 0}, {1, 1, NONE, 0, 1}};
        for (int ship = 0; ship < 2; ship++) {
            for (int what = 0; what < 5; what++) {
                Check.due("restored: about " + ship + " " + what, x.about(ship, what), want[ship][what]);
            }
        }
        int[] counts = {4, 2, 0, 3, 1, 2, 0, 4, 1};
        for (int what = 0; what < counts.length; what++) {
            Check.due("restored: count " + what, x.count(what), counts[what]);
        }
        int[] guesses = {1, 31, 30, 31, 31, 31};
        for (int name = 0; name < 6; name++) {
            Check.due("restored: guess " + name, x.guess(name), guesses[name]);
            Check.due("restored: spent " + name, x.spent(name), name < 3 ? 1 : 0);
        }
        Check.due("no wake was begun", x.called(), STATE);
        Check.due("none to go on with", x.then(3), STATE);
        Check.due("nobody calls, so none is in place", x.call(0, 3), NONE);
        Check.due("what was called at the image stays spent", x.spent(1), 1);
    }

    private static void theLatestImage() {
        NamedWind x = Check.seaOf(BOOK);
        x.ship(4, 3);
        x.image();
        x.blow(0);
        x.image();
        x.call(0, 0);
        x.blow(0);
        x.restore();
        Check.due("of the latest", x.about(0, 1), 4);
        Check.due("its answers", x.guess(0), 31);
        x.call(0, 0);
        x.blow(1);
        Check.due("answers since are others", x.guess(0), 29);
        x.restore();
        Check.due("days", x.count(4), 1);
        Check.due("answers", x.count(5), 0);
        x.years(9, 9, 0);
        x.restore();
        Check.due("years leave the image alone", x.about(0, 1), 4);
    }

    private static void imagesRefused() {
        NamedWind x = new NamedWind();
        Check.due("image: no book", x.image(), STATE);
        Check.due("restore: no book", x.restore(), STATE);
        NamedWind y = Check.seaOf(BOOK);
        y.ship(0, 2);
        y.wake(0, 2);
        Check.due("restore: none was kept", y.restore(), STATE);
        Check.due("it changes nothing", y.called(), 1);
        y.image();
        Check.write(y, BOOK);
        Check.due("kept until a book is read", y.restore(), 1);
        y.book();
        Check.due("restore: a book was read since", y.restore(), STATE);
        Check.due("image of the new book", y.image(), 0);
        Check.due("restore of it", y.restore(), 0);
    }

    /** Promise 28. */
    private static void counts() {
        NamedWind x = Check.seaOf(BOOK);
        x.ship(0, 9);
        x.ship(4, 8);
        x.ship(1, 1);
        x.call(1, 0);
        x.call(2, 0);
        x.blow(0);
        x.blow(4);
        x.wake(2, 0);
        x.then(1);
        x.then(1);
        x.then(1);
        Check.write(x, "01:90");
        int[] want = {4, 3, 2, 1, 2, 2, 3, 5, 1};
        for (int what = 0; what < want.length; what++) {
            Check.due("count " + what, x.count(what), want[what]);
        }
        for (int bad : new int[] {-1, 9, Integer.MAX_VALUE, Integer.MIN_VALUE}) {
            Check.due("count " + bad, x.count(bad), OUTSIDE);
            Check.due("count of nothing " + bad, new NamedWind().count(bad), OUTSIDE);
        }
    }

    private static long mixed(long... numbers) {
        long h = 661;
        for (long number : numbers) {
            h = 31 * h + number;
        }
        return h;
    }

    /** Promise 29. */
    private static void digests() {
        NamedWind x = new NamedWind();
        Check.due("of nothing", x.digest(),
                mixed(0, 31, 0, 31, 0, 31, 0, 31, 0, 31, 0, 31, 0, 0, 0, 0, 0, 0, 0, 0, 0));
        x = Check.seaOf("0:555/1:555/-:000/-:000");
        x.ship(0, 7);
        x.ship(4, 6);
        x.call(0, 0);
        x.call(1, 1);
        x.blow(0);
        x.call(1, 2);
        x.wake(0, 3);
        x.then(5);
        Check.write(x, "1:");
        Check.due("of all", x.digest(), mixed(
                5, 5, 5, 5, 5, 5, 0, 0, 0, 0, 0, 0, 0, 0, 0,
                0, 1, -1, -1, -1, -1,
                0,
                1, 1, 0, 30, 0, 31, 0, 31, 0, 31, 0, 31,
                0, 9, -1, 1, 0, 1, 1,
                4, 5, 2, 0, 1, 1, 4,
                2,
                '1', ':',
                2, 2, 1, 1, 1, 2, 1, 2, 1));
    }

    private static void digestsTell() {
        NamedWind x = Check.seaOf(BOOK);
        x.ship(0, 3);
        long before = x.digest();
        Check.due("the same again", x.digest(), before);
        x.call(0, 7);
        x.blow(9);
        x.ship(9, 0);
        x.letters(-1);
        x.restore();
        Check.due("refused calls change nothing", x.digest(), before);
        x.wake(0, 0);
        Check.holds("a wake is told", x.digest() != before);
    }
}
