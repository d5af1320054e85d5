/** Promises 1 to 7 and 18: the page and the book. */
public final class BookTest {
    private static final int UNKNOWN = NamedWind.UNKNOWN, OUTSIDE = NamedWind.OUTSIDE;
    private static final int STATE = NamedWind.STATE, FULL = NamedWind.FULL, NONE = NamedWind.NONE;
    private static final String BOOK = "01:903/2:053/-:053/3:101";

    public static void main(String[] args) {
        aNewObject();
        lettersCome();
        lettersRefused();
        blankPage();
        faults();
        booksRead();
        anotherBook();
        tenthsAndWinds();
        tells();
        Check.end();
    }

    /** Promise 1. */
    private static void aNewObject() {
        NamedWind x = new NamedWind();
        for (int what = 0; what < 9; what++) {
            Check.due("new: count " + what, x.count(what), 0);
        }
        Check.due("new: book", x.book(), STATE);
        Check.due("new: tenths", x.tenths(0, 0), STATE);
        Check.due("new: windOf", x.windOf(0), STATE);
        Check.due("new: ship", x.ship(0, 0), STATE);
        Check.due("new: about", x.about(0, 0), UNKNOWN);
        Check.due("new: as", x.as(0, 0), UNKNOWN);
        Check.due("new: call", x.call(0, 0), UNKNOWN);
        Check.due("new: spent", x.spent(0), 0);
        Check.due("new: blow", x.blow(0), STATE);
        Check.due("new: moon", x.moon(), 0);
        Check.due("new: likely", x.likely(0, 1, 0), UNKNOWN);
        Check.due("new: what", x.what(0, 0, 1), UNKNOWN);
        Check.due("new: sure", x.sure(0), UNKNOWN);
        Check.due("new: tells", x.tells(), STATE);
        Check.due("new: race", x.race(0, 1, 1, 0), UNKNOWN);
        Check.due("new: guess", x.guess(0), 31);
        Check.due("new: wake", x.wake(0, 0), UNKNOWN);
        Check.due("new: then", x.then(0), STATE);
        Check.due("new: called", x.called(), STATE);
        Check.due("new: by", x.by(0), STATE);
        Check.due("new: years", x.years(1, 0, 0), STATE);
        Check.due("new: image", x.image(), STATE);
        Check.due("new: restore", x.restore(), STATE);
        Check.due("new: fault", x.fault(), 0);
        Check.due("new: blank", x.blank(), 0);
    }

    /** Promise 2, and promise 28 of the page. */
    private static void lettersCome() {
        NamedWind x = new NamedWind();
        Check.due("no letter", x.letters(0), 0);
        Check.due("one letter", x.letters('a'), 1);
        Check.due("three letters", x.letters(0x7e0120L), 4);
        Check.due("eight letters", x.letters(0x7e7e7e7e7e7e7e7eL), 12);
        Check.due("eight more", x.letters(0x0101010101010101L), 20);
        Check.due("two", x.letters(0x3130L), 22);
        Check.due("up to thirty", x.letters(Check.packed("abcdefgh", 0)), 30);
        Check.due("none more than thirty", x.letters(0), 30);
        Check.due("letters counted", x.count(7), 30);
        NamedWind y = new NamedWind();
        Check.write(y, "01:");
        long h = 661;
        for (int name = 0; name < 6; name++) {
            h = 31 * (31 * h) + 31;
        }
        for (int code : new int[] {'0', '1', ':', 0, 0, 0, 0, 0, 0, 0, 3, 0}) {
            h = 31 * h + code;
        }
        Check.due("lowest byte first", y.digest(), h);
    }

    private static void lettersRefused() {
        NamedWind x = new NamedWind();
        Check.due("code 127", x.letters(127), OUTSIDE);
        Check.due("code 255", x.letters(-1), OUTSIDE);
        Check.due("code 128 on top", x.letters(0x8061616161616161L), OUTSIDE);
        Check.due("a letter behind a 0", x.letters(0x610061L), OUTSIDE);
        Check.due("a 0 first", x.letters(0x6100L), OUTSIDE);
        Check.due("top byte behind 0", x.letters(0x6100000000000000L), OUTSIDE);
        Check.due("nothing came", x.count(7), 0);
        Check.write(x, "0123456789012345678901234567");
        Check.due("above thirty", x.letters(0x616161L), FULL);
        Check.due("OUTSIDE ahead of FULL", x.letters(0x61617fL), OUTSIDE);
        Check.due("a gap ahead of FULL", x.letters(0x6100616161L), OUTSIDE);
        Check.due("still as it was", x.count(7), 28);
        Check.due("just thirty", x.letters(0x6161L), 30);
        Check.due("one above", x.letters(0x61L), FULL);
    }

    /** Promise 3. */
    private static void blankPage() {
        NamedWind x = new NamedWind();
        Check.write(x, "01:90");
        Check.due("blank", x.blank(), 5);
        Check.due("blank again", x.blank(), 0);
        Check.due("letters from the start", x.letters('-'), 1);
        Check.due("fault of a new page", x.fault(), 1);
    }

    /** Promise 4. */
    private static void faults() {
        fault("", 0);
        fault("6", 0);
        fault(":", 0);
        fault("/", 0);
        fault("a", 0);
        fault("0", 1);
        fault("00", 1);
        fault("0-", 1);
        fault("-0", 1);
        fault("--", 1);
        fault("016", 2);
        fault("012", 2);
        fault("01-", 2);
        fault("01/", 2);
        fault("06", 1);
        fault("0:9/", 3);
        fault("0::", 2);
        fault("0:a", 2);
        fault("0:999:", 5);
        fault("0:9990", 5);
        fault("0:999/0", 6);
        fault("0:999/10", 7);
        fault("0:999/1:2", 8);
        fault("0:999/1:111", 11);
        fault("0:999/1:112", 10);
        fault("0:999/1:120", 9);
        fault("01:991/2:2", 9);
        fault("-:900/-:100/-:100", 14);
        fault("-:190/-:000/-:020", 15);
        fault("-:000/-:000/-:000/-:000", 23);
        fault("-:000/-:000/-:000/-:000/", 23);
        fault("-:000/-:000/-:000/-:0000", 23);
        fault("-:000/-:000/-:000/-:00", 22);
        fault("01:000/23:000/45:000/-:000", 26);
        fault("01:000/23:000/45:000/0:000", 21);
        fault("01:000/23:000/4:000/45:000", 20);
        fault("01:000/23:000/4:000/5:000", 25);
        fault("01:000/23:000/4:000/54:000", 21);
        fault("-:333/-:333/-:333/012:111", 20);
        fault(" -:000", 0);
        fault("-:000/-:000/-:000/-:000~~~~~~~", 23);
    }

    private static void fault(String text, int want) {
        NamedWind x = new NamedWind();
        Check.write(x, text);
        Check.due("fault() of " + text, x.fault(), want);
        Check.due("fault() again of " + text, x.fault(), want);
        Check.due("the page stays", x.count(7), text.length());
    }

    /** Promise 5. */
    private static void booksRead() {
        notABook("-:000/-:000/-:000/-:00");
        notABook("-:000/-:000/-:000/");
        notABook("-:000/-:000/-:000/-:000/");
        notABook("0:000/0:000/-:000/-:000");
        notABook("0:600/1:500/-:000/-:000");
        notABook("-:000");
        book("-:000/-:000/-:000/-:000", 0);
        book("01:000/23:000/45:000/-:000", 6);
        book("5:000/4:000/3:000/2:000", 4);
        book("10:999/-:111/-:000/-:000", 2);
    }

    private static void book(String text, int names) {
        NamedWind x = new NamedWind();
        Check.write(x, text);
        Check.due("book() of " + text, x.book(), names);
        Check.due("names counted", x.count(0), names);
        Check.due("books counted", x.count(8), 1);
        Check.due("page empty", x.count(7), 0);
        Check.due("it is read once", x.book(), STATE);
    }

    private static void notABook(String text) {
        NamedWind x = new NamedWind();
        Check.write(x, text);
        Check.due("book() of " + text, x.book(), STATE);
        Check.due("page stays", x.count(7), text.length());
        Check.due("none read", x.count(8), 0);
        Check.due("still no book", x.tells(), STATE);
        NamedWind y = Check.seaOf(BOOK);
        y.ship(0, 3);
        y.image();
        Check.write(y, text);
        Check.due("refused beside a book", y.book(), STATE);
        Check.due("the book stays", y.windOf(3), 3);
        Check.due("its tenths stay", y.tenths(0, 0), 9);
        Check.due("ships stay", y.count(1), 1);
        Check.due("the image stays", y.restore(), 1);
    }

    private static void anotherBook() {
        NamedWind x = Check.seaOf(BOOK);
        x.ship(0, 3);
        x.ship(0, 9);
        x.call(0, 5);
        x.blow(0);
        x.call(0, 0);
        x.blow(0);
        x.call(0, 1);
        x.wake(0, 2);
        x.then(3);
        x.image();
        Check.write(x, BOOK);
        Check.due("same text again", x.book(), 4);
        int[] want = {4, 0, 0, 0, 0, 0, 0, 0, 2};
        for (int what = 0; what < want.length; what++) {
            Check.due("after another book: count " + what, x.count(what), want[what]);
        }
        Check.due("answers are gone", x.guess(5), 31);
        Check.due("spent is gone", x.spent(5), 0);
        Check.due("the wake is gone", x.called(), STATE);
        Check.due("the image is gone", x.restore(), STATE);
        Check.due("ships are gone", x.about(0, 0), UNKNOWN);
        Check.due("a new ship is the first", x.ship(4, 8), 0);
        int[] about = {4, 8, NONE, 0, 0};
        for (int what = 0; what < about.length; what++) {
            Check.due("it has no past: about " + what, x.about(0, what), about[what]);
        }
        Check.write(x, "4:123/-:321/5:500/-:000");
        Check.due("a third book", x.book(), 2);
        Check.due("its wind", x.windOf(5), 2);
        Check.due("a name of before", x.windOf(0), NONE);
        Check.due("its tenths", x.tenths(0, 1), 2);
        Check.due("its calm", x.tenths(4, 0), 1);
    }

    /** Promises 6 and 7. */
    private static void tenthsAndWinds() {
        NamedWind x = Check.seaOf("01:903/2:052/-:041/3:101");
        int[][] want = {{9, 0, 3}, {0, 5, 2}, {0, 4, 1}, {1, 0, 1}, {0, 1, 3}};
        for (int wind = 0; wind <= 4; wind++) {
            for (int sign = 0; sign < 3; sign++) {
                Check.due("tenths " + wind + " " + sign, x.tenths(wind, sign), want[wind][sign]);
            }
        }
        int[] winds = {0, 0, 1, 3, NONE, NONE};
        for (int name = 0; name < 6; name++) {
            Check.due("windOf " + name, x.windOf(name), winds[name]);
        }
        for (int bad : new int[] {-1, 5, -100, Integer.MAX_VALUE, Integer.MIN_VALUE}) {
            Check.due("no wind " + bad, x.tenths(bad, 0), UNKNOWN);
            Check.due("no wind, no book " + bad, new NamedWind().tenths(bad, 0), UNKNOWN);
        }
        for (int bad : new int[] {-1, 3, Integer.MAX_VALUE, Integer.MIN_VALUE}) {
            Check.due("no sign " + bad, x.tenths(4, bad), UNKNOWN);
            Check.due("no sign, no book " + bad, new NamedWind().tenths(4, bad), UNKNOWN);
        }
        for (int bad : new int[] {-1, 6, Integer.MAX_VALUE, Integer.MIN_VALUE}) {
            Check.due("no name " + bad, x.windOf(bad), UNKNOWN);
            Check.due("no name, no book " + bad, new NamedWind().windOf(bad), UNKNOWN);
        }
    }

    /** Promise 18. */
    private static void tells() {
        Check.due("all calm", Check.seaOf("-:000/-:000/-:000/-:000").tells(), 0);
        Check.due("calm by sign 2", Check.seaOf("-:330/-:330/-:330/-:001").tells(), 2);
        Check.due("a wind by sign 1", Check.seaOf("-:080/-:702/-:300/-:004").tells(), 1);
        Check.due("of like ones the least", Check.seaOf("-:377/-:310/-:310/-:100").tells(), 1);
        Check.due("calm beside a wind", Check.seaOf("-:345/-:300/-:300/-:000").tells(), 1);
        Check.due("added up it does not tell", Check.seaOf("-:359/-:350/-:300/-:100").tells(), 2);
    }
}
