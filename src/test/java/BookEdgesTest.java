/** Promises 1 to 7 and 18, and the terms of the book: a test of its own for each sentence that tells an edge. */
public final class BookEdgesTest {
    private static final int UNKNOWN = NamedWind.UNKNOWN, OUTSIDE = NamedWind.OUTSIDE;
    private static final int STATE = NamedWind.STATE, FULL = NamedWind.FULL, NONE = NamedWind.NONE;
    /** A book with as many letters as one can have. */
    private static final String LONGEST = "01:903/23:053/45:053/-:101";
    private static final String SHORTEST = "-:000/-:000/-:000/-:000";

    public static void main(String[] args) {
        noBookAtFirst();
        noShipsAtFirst();
        upToEight();
        lowestByteFirst();
        untilAZero();
        above126();
        behindAZero();
        aboveThirty();
        nothingPartlyTaken();
        blankOfNoneAndAll();
        faultOfNothing();
        faultBehindABook();
        faultOfEveryLetter();
        faultOfTenthsAboveTen();
        faultBehindThoseAhead();
        faultLeavesThePage();
        fourParts();
        oneOrTwoDigits();
        unlikeDigits();
        namesZeroToFive();
        ofOneWindAlone();
        answersToNone();
        threeDigits();
        tenTogetherOrFewer();
        noBookOrSixNames();
        anotherOneIsGone();
        newShipsHaveNoPast();
        thePageIsEmptyThen();
        tenthsOfACalm();
        nameOfNone();
        tellsOfLikeOnes();
        tellsOfACalm();
        tellsOfTheLikeliest();
        Check.end();
    }

    private static void noBookAtFirst() {
        Check.sentence("At first there is no BOOK");
        NamedWind read = Check.seaOf(LONGEST);
        NamedWind x = new NamedWind();
        Check.due("books read", x.count(8), 0);
        Check.due("names", x.count(0), 0);
        Check.due("letters", x.count(7), 0);
        for (int wind = 0; wind <= 4; wind++) {
            for (int sign = 0; sign < 3; sign++) {
                Check.due("tenths", x.tenths(wind, sign), STATE);
            }
        }
        for (int name = 0; name < 6; name++) {
            Check.due("windOf", x.windOf(name), STATE);
        }
        Check.due("tells", x.tells(), STATE);
        Check.due("another object has one", read.count(8), 1);
        Check.due("and keeps it", read.windOf(5), 2);
    }

    private static void noShipsAtFirst() {
        Check.sentence("No BOOK, no SHIPS");
        NamedWind x = new NamedWind();
        NamedWind y = Check.seaOf(LONGEST);
        for (NamedWind sea : new NamedWind[] {x, y}) {
            for (int what = 1; what <= 6; what++) {
                Check.due("count " + what, sea.count(what), 0);
            }
            Check.due("about", sea.about(0, 0), UNKNOWN);
        }
        y.ship(0, 3);
        Check.due("a ship of another object", x.count(1), 0);
        Check.due("is not here", x.about(0, 0), UNKNOWN);
    }

    private static void upToEight() {
        Check.sentence("Letters come behind THE PAGE, up to eight");
        for (int many = 0; many <= 8; many++) {
            NamedWind x = new NamedWind();
            String text = "-:000/-:".substring(0, many);
            Check.due(many + " letters", x.letters(Check.packed(text, 0)), many);
            Check.due(many + " counted", x.count(7), many);
            Check.due(many + " without a fault", x.fault(), many);
            Check.due("behind them one", x.letters('~'), many + 1);
            Check.due("it stands behind", x.fault(), many);
        }
    }

    private static void lowestByteFirst() {
        Check.sentence("the lowest byte first");
        NamedWind x = new NamedWind();
        x.letters('0' | '1' << 8 | ':' << 16);
        Check.due("in that order they begin a book", x.fault(), 3);
        NamedWind y = new NamedWind();
        y.letters(':' | '1' << 8 | '0' << 16);
        Check.due("in the other one they don't", y.fault(), 0);
        NamedWind top = new NamedWind();
        top.letters(Check.packed("-:000/-", 0) | (long) '0' << 56);
        Check.due("the highest byte last", top.fault(), 7);
    }

    private static void untilAZero() {
        Check.sentence("until a byte that is 0: how many THE PAGE has");
        NamedWind x = new NamedWind();
        Check.due("a 0 at once", x.letters(0), 0);
        Check.due("five and zeros", x.letters(Check.packed("-:000", 0)), 5);
        Check.due("a 0 at once, behind them", x.letters(0), 5);
        Check.due("seven and one 0", x.letters(Check.packed("/-:000/", 0)), 12);
    }

    private static void above126() {
        Check.sentence("OUTSIDE: a byte above 126");
        for (int at = 0; at < 8; at++) {
            long ahead = Check.packed("-:000/-:".substring(0, at), 0);
            for (int code : new int[] {1, 2, 125, 126}) {
                NamedWind x = new NamedWind();
                Check.due(code + " at " + at, x.letters(ahead | (long) code << (8 * at)), at + 1);
            }
            for (int code : new int[] {127, 128, 129, 176, 254, 255}) {
                long w = ahead | (long) code << (8 * at);
                Twins.refused(code + " at " + at, Twins::noBook, x -> x.letters(w), OUTSIDE);
                NamedWind x = new NamedWind();
                Check.due(code + " at " + at + " of seven more", x.letters(w | ~(-1L << (8 * at)) & 0x0101010101010101L), OUTSIDE);
                Check.due("none came", x.count(7), 0);
            }
        }
    }

    private static void behindAZero() {
        Check.sentence("OUTSIDE: .. or one behind a 0 that is not 0");
        for (int zero = 0; zero < 7; zero++) {
            for (int letter = zero + 1; letter < 8; letter++) {
                for (int code : new int[] {1, '0', 126, 127, 255}) {
                    long w = Check.packed("-:000/-:".substring(0, zero), 0) | (long) code << (8 * letter);
                    Twins.refused(code + " at " + letter + " behind a 0 at " + zero, Twins::noBook, x -> x.letters(w), OUTSIDE);
                }
            }
        }
    }

    private static void aboveThirty() {
        Check.sentence("FULL: above 30");
        for (int had = 20; had <= 30; had++) {
            for (int more = 0; more <= 8; more++) {
                NamedWind x = new NamedWind();
                Check.write(x, "abcdefghijklmnopqrstuvwxyzABCD".substring(0, had));
                boolean fits = had + more <= 30;
                Check.due(had + " and " + more, x.letters(Check.packed("01234567".substring(0, more), 0)), fits ? had + more : FULL);
                Check.due("counted", x.count(7), fits ? had + more : had);
            }
        }
    }

    private static void nothingPartlyTaken() {
        Check.sentence("FULL: above 30 .. they change nothing");
        for (int had = 23; had <= 30; had++) {
            String text = SHORTEST + "~~~~~~~";
            int letters = had;
            Twins.refused(had + " and eight", () -> {
                NamedWind x = new NamedWind();
                Check.write(x, text.substring(0, letters));
                return x;
            }, x -> x.letters(Check.packed("/-:000/-", 0)), FULL);
        }
        NamedWind x = new NamedWind();
        Check.write(x, SHORTEST);
        x.letters(Check.packed("01234567", 0));
        Check.due("so it is a book still", x.book(), 0);
    }

    private static void blankOfNoneAndAll() {
        Check.sentence("THE PAGE is empty: how many letters it had");
        NamedWind x = new NamedWind();
        Check.due("of none", x.blank(), 0);
        for (int many : new int[] {1, 8, 29, 30}) {
            Check.write(x, "abcdefghijklmnopqrstuvwxyzABCD".substring(0, many));
            Check.due("of " + many, x.blank(), many);
            Check.due("empty then", x.count(7), 0);
            Check.due("no letter is left", x.digest(), new NamedWind().digest());
            Check.due("again", x.blank(), 0);
        }
        Check.write(x, LONGEST);
        Check.due("thirty have room again: a book behind a full page", x.book(), 6);
    }

    private static void faultOfNothing() {
        Check.sentence("how many letters it has, if there is none (empty)");
        Check.due("a new page", new NamedWind().fault(), 0);
        NamedWind x = Check.seaOf(LONGEST);
        Check.due("behind a book", x.fault(), 0);
        Check.write(x, "~");
        x.blank();
        Check.due("a page that is blank again", x.fault(), 0);
    }

    private static void faultBehindABook() {
        Check.sentence("the first letter of THE PAGE that no BOOK has there (behind a whole one)");
        for (String book : new String[] {SHORTEST, LONGEST}) {
            for (char more : new char[] {'0', '/', ':', '-', ' ', 1, 126}) {
                fault(book + more, book.length());
                fault(book + more + more + more + more, book.length());
            }
        }
    }

    private static void fault(String text, int want) {
        NamedWind x = new NamedWind();
        Check.write(x, text);
        Check.due("fault() of " + text, x.fault(), want);
    }

    /** At each place of a book each letter, beside what the terms let stand there. */
    private static void faultOfEveryLetter() {
        Check.sentence("The place (from 0) of the first letter of THE PAGE that no BOOK has there");
        String book = "05:903/2:053/-:010/34:101";
        // Name 5 and name 0 are gone behind the first part, name 2 behind the second one; tenths are what is left of ten.
        String[] good = {"012345-", "12345:", ":", "0123456789", "0123456789", "0123456789", "/",
            "1234-", "134:", "01", "0123456789", "01234567", "/",
            "134-", ":", "01", "012345", "01234", "/",
            "134-", "14:", ":", "01", "01234", "01234"};
        for (int at = 0; at <= book.length(); at++) {
            for (char letter = 1; letter <= 126; letter++) {
                boolean goes = at < book.length() && good[at].indexOf(letter) >= 0;
                fault(book.substring(0, at) + letter, goes ? at + 1 : at);
                fault(book.substring(0, at) + letter + "~", goes ? at + 1 : at);
            }
        }
    }

    private static void faultOfTenthsAboveTen() {
        Check.sentence("a digit by which TENTHS of a SIGN are above 10, too");
        for (int sign = 0; sign < 3; sign++) {
            for (int wind = 1; wind < 4; wind++) {
                for (int first = 1; first <= 9; first++) {
                    String text = withTenths(0, sign, first, wind, 10 - first);
                    int place = 2 + sign + 6 * wind;
                    fault(text, SHORTEST.length());
                    if (10 - first < 9) {
                        fault(withTenths(0, sign, first, wind, 11 - first), place);
                    }
                    fault(withTenths(0, sign, first, wind, 9), first == 1 ? SHORTEST.length() : place);
                }
            }
        }
        fault("-:333/-:333/-:333/-:112", 22);
        fault("-:333/-:333/-:333/-:111", 23);
        fault("-:999/-:111/-:000/-:001", 22);
    }

    private static String withTenths(int wind, int sign, int tenths, int other, int othersTenths) {
        StringBuilder text = new StringBuilder(SHORTEST);
        text.setCharAt(2 + sign + 6 * wind, (char) ('0' + tenths));
        text.setCharAt(2 + sign + 6 * other, (char) ('0' + othersTenths));
        return text.toString();
    }

    private static void faultBehindThoseAhead() {
        Check.sentence("behind those ahead of it");
        for (String book : new String[] {SHORTEST, LONGEST, "5:000/4:111/3:222/2:333"}) {
            for (int many = 0; many <= book.length(); many++) {
                fault(book.substring(0, many), many);
                fault(book.substring(0, many) + "~" + book.substring(0, Math.min(3, many)), many);
            }
        }
    }

    private static void faultLeavesThePage() {
        Check.sentence("fault() reads, and changes nothing");
        NamedWind x = Check.seaOf(LONGEST);
        x.ship(0, 3);
        Check.write(x, "5:111/~");
        long before = x.digest();
        x.fault();
        Check.due("all is as it was", x.digest(), before);
        Check.due("the book is the old one", x.windOf(5), 2);
    }

    private static boolean isBook(String text) {
        NamedWind x = new NamedWind();
        Check.write(x, text);
        int fault = x.fault();
        int names = x.book();
        Check.holds("read or refused: " + text, names == STATE || (names >= 0 && fault == text.length()));
        return names != STATE;
    }

    private static void fourParts() {
        Check.sentence("four parts with \"/\" between, one for each WIND");
        Check.holds("four", isBook("-:000/-:000/-:000/-:000"));
        Check.holds("one", !isBook("-:000"));
        Check.holds("two", !isBook("-:000/-:000"));
        Check.holds("three", !isBook("-:000/-:000/-:000"));
        Check.holds("five", !isBook("-:000/-:000/-:000/-:000/-:000"));
        Check.holds("a / ahead", !isBook("/-:000/-:000/-:000/-:000"));
        Check.holds("a / behind", !isBook("-:000/-:000/-:000/-:000/"));
        Check.holds("two /", !isBook("-:000//-:000/-:000/-:000"));
        Check.holds("no /", !isBook("-:000-:000/-:000/-:000"));
        Check.holds("something else", !isBook("-:000.-:000/-:000/-:000"));
        Check.holds("and 0", !isBook("-:0000-:000/-:000/-:000"));
    }

    private static void oneOrTwoDigits() {
        Check.sentence("one or two unlike digits");
        for (int wind = 0; wind < 4; wind++) {
            Check.holds("no digit", !isBook(withOwn(wind, "")));
            Check.holds("one digit", isBook(withOwn(wind, "3")));
            Check.holds("two digits", isBook(withOwn(wind, "35")));
            Check.holds("two digits, the greater one first", isBook(withOwn(wind, "53")));
            Check.holds("three digits", !isBook(withOwn(wind, "354")));
        }
    }

    private static String withOwn(int wind, String own) {
        StringBuilder text = new StringBuilder();
        for (int i = 0; i < 4; i++) {
            text.append(i > 0 ? "/" : "").append(i == wind ? own : "-").append(":000");
        }
        return text.toString();
    }

    private static void unlikeDigits() {
        Check.sentence("two unlike digits");
        for (int wind = 0; wind < 4; wind++) {
            for (int a = 0; a < 6; a++) {
                for (int b = 0; b < 6; b++) {
                    Check.due("wind " + wind + ": " + a + b, isBook(withOwn(wind, "" + a + b)) ? 1 : 0, a == b ? 0 : 1);
                }
            }
        }
    }

    private static void namesZeroToFive() {
        Check.sentence("its NAMES, 0 to 5");
        for (int wind = 0; wind < 4; wind++) {
            for (char own = '/' - 1; own <= ':' + 1; own++) {
                boolean name = own >= '0' && own <= '5';
                Check.due("wind " + wind + " first " + own, isBook(withOwn(wind, "" + own)) ? 1 : 0, name ? 1 : 0);
                char other = own == '0' ? '1' : '0';
                Check.due("wind " + wind + " second " + own, isBook(withOwn(wind, "" + other + own)) ? 1 : 0, name ? 1 : 0);
            }
        }
    }

    private static void ofOneWindAlone() {
        Check.sentence("a NAME is one of one WIND alone");
        for (int first = 0; first < 3; first++) {
            for (int second = first + 1; second < 4; second++) {
                for (int name = 0; name < 6; name++) {
                    int other = (name + 1) % 6;
                    Check.holds("another name", isBook(withOwns(first, "" + name, second, "" + other)));
                    Check.holds("the same", !isBook(withOwns(first, "" + name, second, "" + name)));
                    Check.holds("the same, second", !isBook(withOwns(first, "" + other + name, second, "" + name)));
                    Check.holds("the same as second", !isBook(withOwns(first, "" + name, second, "" + other + name)));
                }
            }
        }
    }

    private static String withOwns(int first, String own, int second, String secondOwn) {
        StringBuilder text = new StringBuilder();
        for (int i = 0; i < 4; i++) {
            String its = i == first ? own : i == second ? secondOwn : "-";
            text.append(i > 0 ? "/" : "").append(its).append(":000");
        }
        return text.toString();
    }

    private static void answersToNone() {
        Check.sentence("or \"-\" (it answers to none)");
        for (int wind = 0; wind < 4; wind++) {
            Check.holds("-", isBook(withOwn(wind, "-")));
            Check.holds("--", !isBook(withOwn(wind, "--")));
            Check.holds("- and a digit", !isBook(withOwn(wind, "-1")));
            Check.holds("a digit and -", !isBook(withOwn(wind, "1-")));
        }
        NamedWind x = Check.seaOf("01:999/-:111/23:000/-:000");
        Check.due("nobody's is 4", x.windOf(4), NONE);
        Check.due("four names", x.count(0), 4);
    }

    private static void threeDigits() {
        Check.sentence("then \":\" and three digits (0 to 9)");
        for (int wind = 0; wind < 4; wind++) {
            int colon = 1 + 6 * wind;
            String ahead = SHORTEST.substring(0, colon);
            String behind = SHORTEST.substring(colon + 4);
            Check.holds("no :", !isBook(ahead + "000" + behind));
            Check.holds("two :", !isBook(ahead + "::000" + behind));
            Check.holds("none", !isBook(ahead + ":" + behind));
            Check.holds("two digits", !isBook(ahead + ":00" + behind));
            Check.holds("four digits", !isBook(ahead + ":0000" + behind));
            for (int sign = 0; sign < 3; sign++) {
                for (char digit = '/' - 1; digit <= ':' + 1; digit++) {
                    StringBuilder text = new StringBuilder(SHORTEST);
                    text.setCharAt(colon + 1 + sign, digit);
                    boolean good = digit >= '0' && digit <= '9';
                    Check.due(text.toString(), isBook(text.toString()) ? 1 : 0, good ? 1 : 0);
                }
            }
        }
    }

    private static void tenTogetherOrFewer() {
        Check.sentence("the TENTHS of all WINDS by each SIGN are 10 together, or fewer");
        for (int sign = 0; sign < 3; sign++) {
            for (int a = 0; a < 10; a++) {
                for (int b = 0; b < 10; b++) {
                    int c = Math.min(9, Math.max(0, 10 - a - b));
                    Check.due("of two " + a + " " + b, isBook(withTenths(1, sign, a, 3, b)) ? 1 : 0, a + b <= 10 ? 1 : 0);
                    StringBuilder four = new StringBuilder(withTenths(0, sign, a, 2, b));
                    four.setCharAt(8 + sign, (char) ('0' + c));
                    Check.due("with a third " + four, isBook(four.toString()) ? 1 : 0, a + b + c <= 10 ? 1 : 0);
                    four.setCharAt(20 + sign, '1');
                    Check.due("with a fourth " + four, isBook(four.toString()) ? 1 : 0, a + b + c < 10 ? 1 : 0);
                }
            }
        }
    }

    private static void noBookOrSixNames() {
        Check.sentence("how many NAMES (0 to 6)");
        String[] books = {SHORTEST, "-:000/-:000/-:000/5:000", "-:000/01:000/-:000/-:000", "0:000/1:000/2:000/-:000",
            "0:000/1:000/2:000/3:000", "0:000/12:000/3:000/4:000", LONGEST};
        for (int names = 0; names <= 6; names++) {
            NamedWind x = new NamedWind();
            Check.write(x, books[names]);
            Check.due(books[names], x.book(), names);
            Check.due("counted", x.count(0), names);
        }
        NamedWind x = new NamedWind();
        Check.write(x, "-:000/-:000/-:000/012345:000");
        Check.due("six of one wind", x.book(), STATE);
    }

    /** Each thing by itself: a sea that has just this, and reads the same book again. */
    private static void anotherOneIsGone() {
        Check.sentence("another one is gone, with SHIPS, what is SPENT, DAYS, ANSWERS, WAKES");
        NamedWind ships = Check.seaWith(LONGEST, 0, 3, 4, 9);
        again(ships);
        Check.due("ships", ships.count(1), 0);
        Check.due("who is home", ships.count(2), 0);
        Check.due("no ship 0", ships.about(0, 0), UNKNOWN);
        Check.due("six have room", sixShips(ships), 5);
        NamedWind spent = Check.seaWith(LONGEST, 0, 3, 0, 3);
        spent.call(0, 0);
        spent.blow(4);
        spent.call(1, 5);
        again(spent);
        Check.due("spent", spent.count(3), 0);
        Check.due("spent 0", spent.spent(0), 0);
        Check.due("spent 5", spent.spent(5), 0);
        Check.due("the moon", spent.moon(), 0);
        NamedWind days = Check.seaOf(LONGEST);
        days.blow(4);
        again(days);
        Check.due("days", days.count(4), 0);
        NamedWind answers = Check.seaWith(LONGEST, 4, 3);
        answers.call(0, 0);
        answers.blow(1);
        again(answers);
        Check.due("answers", answers.count(5), 0);
        Check.due("what they told", answers.guess(0), 31);
        NamedWind wakes = Check.seaWith(LONGEST, 4, 3);
        wakes.wake(0, 3);
        wakes.then(4);
        again(wakes);
        Check.due("days of wakes", wakes.count(6), 0);
        Check.due("no wake was begun", wakes.then(4), STATE);
        wakes.ship(0, 3);
        Check.due("of the next one, too", wakes.wake(0, 3), 0);
    }

    private static void newShipsHaveNoPast() {
        Check.sentence("another one is gone, with SHIPS (what they called, and how often each was SERVED, TURNED on)");
        NamedWind x = Check.seaWith(LONGEST, 4, 3, 4, 3, 0, 3, 0, 3, 0, 3, 0, 3);
        for (int day = 0; day < 2; day++) {
            x.call(0, 0);
            x.call(1, 5);
            x.blow(day);
        }
        for (int ship = 0; ship < 6; ship++) {
            x.call(ship, 5 - ship);
        }
        again(x);
        for (int ship = 0; ship < 6; ship++) {
            x.ship(ship % 4, 4);
            int[] want = {ship % 4, 4, NONE, 0, 0};
            for (int what = 0; what < 5; what++) {
                Check.due("ship " + ship + ": about " + what, x.about(ship, what), want[what]);
            }
            // What one that is gone called is spent by nobody.
            for (int name = 0; name < 6; name++) {
                x.call(ship, name);
                Check.due("in place", x.call(ship, NONE), name);
                Check.due("not spent", x.spent(name), 0);
            }
        }
    }

    private static int sixShips(NamedWind x) {
        int last = NONE;
        for (int i = 0; i < 6; i++) {
            last = x.ship(0, 0);
        }
        return last;
    }

    private static void again(NamedWind x) {
        int read = x.count(8);
        Check.write(x, LONGEST);
        Check.due("the same text again", x.book(), 6);
        Check.due("it is one more", x.count(8), read + 1);
    }

    private static void thePageIsEmptyThen() {
        Check.sentence("THE PAGE is empty then");
        NamedWind x = new NamedWind();
        for (int read = 1; read <= 3; read++) {
            Check.write(x, read == 2 ? SHORTEST : LONGEST);
            Check.due("read", x.book(), read == 2 ? 0 : 6);
            Check.due("letters", x.count(7), 0);
            Check.due("blank", x.blank(), 0);
            Check.due("it is none", x.book(), STATE);
            Check.due("how often one was read", x.count(8), read);
        }
    }

    private static void tenthsOfACalm() {
        Check.sentence("the rest of ten: a CALM");
        for (int sign = 0; sign < 3; sign++) {
            for (int tenths = 0; tenths <= 9; tenths++) {
                for (int last = 0; last <= Math.min(9, 10 - tenths); last++) {
                    NamedWind x = Check.seaOf(withTenths(0, sign, tenths, 3, last));
                    Check.due("the first", x.tenths(0, sign), tenths);
                    Check.due("the last", x.tenths(3, sign), last);
                    Check.due("the calm", x.tenths(4, sign), 10 - tenths - last);
                    Check.due("by another sign", x.tenths(4, (sign + 1) % 3), 10);
                }
            }
        }
    }

    private static void nameOfNone() {
        Check.sentence("The WIND whose a NAME is; NONE: of none");
        for (int wind = 0; wind < 4; wind++) {
            for (int name = 0; name < 6; name++) {
                NamedWind x = Check.seaOf(withOwn(wind, "" + name));
                for (int other = 0; other < 6; other++) {
                    Check.due("name " + other, x.windOf(other), other == name ? wind : NONE);
                }
            }
        }
        NamedWind x = Check.seaOf(SHORTEST);
        Check.due("the first", x.windOf(0), NONE);
        Check.due("the last", x.windOf(5), NONE);
    }

    private static void tellsOfLikeOnes() {
        Check.sentence("TELLS: of like ones the least");
        Check.due("all three", Check.seaOf("-:555/-:555/-:000/-:000").tells(), 0);
        Check.due("0 and 2", Check.seaOf("-:656/-:444/-:000/-:000").tells(), 0);
        Check.due("1 and 2", Check.seaOf("-:566/-:544/-:000/-:000").tells(), 1);
        Check.due("0 and 1", Check.seaOf("-:665/-:445/-:000/-:000").tells(), 0);
        Check.due("of other winds", Check.seaOf("-:500/-:027/-:270/-:300").tells(), 1);
    }

    private static void tellsOfACalm() {
        Check.sentence("the likeliest thing that blows (a WIND, or a CALM)");
        Check.due("calms alone", Check.seaOf(SHORTEST).tells(), 0);
        Check.due("a calm of ten ahead of a wind of nine", Check.seaOf("-:990/-:110/-:000/-:000").tells(), 2);
        Check.due("a calm by one more", Check.seaOf("-:653/-:400/-:000/-:000").tells(), 2);
        Check.due("a calm like the wind", Check.seaOf("-:364/-:340/-:300/-:100").tells(), 1);
        Check.due("like it, and the least", Check.seaOf("-:346/-:300/-:000/-:000").tells(), 1);
    }

    private static void tellsOfTheLikeliest() {
        Check.sentence("the SIGN by which the likeliest thing that blows is likeliest");
        for (int sign = 0; sign < 3; sign++) {
            for (int wind = 0; wind < 4; wind++) {
                StringBuilder text = new StringBuilder("-:222/-:222/-:222/-:222");
                text.setCharAt(2 + sign + 6 * wind, '3');
                Check.due(text.toString(), Check.seaOf(text.toString()).tells(), sign);
            }
        }
    }
}
