/** Promises 20 to 25: what a name could be, wakes, and years. */
public final class ToldBackTest {
    private static final int UNKNOWN = NamedWind.UNKNOWN, OUTSIDE = NamedWind.OUTSIDE;
    private static final int STATE = NamedWind.STATE, FULL = NamedWind.FULL, NONE = NamedWind.NONE;
    private static final int SHIP = 0, FAST = 1, HEAVY = 2, PILOT = 3, MASTER = 4;
    /** Without calms; names 4 and 5 are of no wind. */
    private static final String BOOK = "01:903/2:053/-:053/3:101";

    public static void main(String[] args) {
        guesses();
        guessesByAnswersAlone();
        fortyAnswers();
        wakes();
        wakesRefused();
        waysOfKinds();
        waysOfDays();
        waysAtTheEnds();
        waysOfWinds();
        calledBy();
        yearsOfNobody();
        yearsOfShips();
        yearsStay();
        yearsRefused();
        Check.end();
    }

    /** Promise 20. */
    private static void guesses() {
        NamedWind x = Check.seaWith(BOOK, MASTER, 5, MASTER, 5);
        for (int name = 0; name < 6; name++) {
            Check.due("nothing is known of " + name, x.guess(name), 31);
        }
        int[] left = {30, 28, 24, 16};
        for (int wind = 0; wind < 4; wind++) {
            x.call(0, 5);
            Check.due("only called", x.guess(5), wind == 0 ? 31 : left[wind - 1]);
            x.blow(4);
            Check.due("a calm tells nothing", x.guess(5), wind == 0 ? 31 : left[wind - 1]);
            x.call(0, 5);
            x.blow(wind);
            Check.due("turned on by " + wind, x.guess(5), left[wind]);
        }
        x.call(0, 3);
        x.call(1, 2);
        x.blow(3);
        Check.due("served by 3", x.guess(3), 8);
        Check.due("turned on by 3", x.guess(2), 23);
        x.call(0, 3);
        x.blow(0);
        Check.due("turned on by 0, too", x.guess(3), 8);
        Check.due("who calls nothing tells nothing", x.guess(0), 31);
        for (int bad : new int[] {-1, 6, Integer.MAX_VALUE, Integer.MIN_VALUE}) {
            Check.due("no name " + bad, x.guess(bad), UNKNOWN);
        }
    }

    private static void guessesByAnswersAlone() {
        NamedWind x = Check.seaWith("01:500/-:050/-:005/-:000", SHIP, 3, SHIP, 3);
        x.call(0, 0);
        x.call(1, 1);
        x.blow(0);
        Check.due("0", x.guess(0), 1);
        Check.due("1", x.guess(1), 1);
        Check.due("a third name is guessed by its own answers", x.guess(2), 31);
        Check.due("two answers", x.count(5), 2);
    }

    private static void fortyAnswers() {
        NamedWind x = Check.seaWith("01:555/-:000/-:000/-:000",
                MASTER, 3, MASTER, 3, MASTER, 3, MASTER, 3, MASTER, 3, MASTER, 3);
        for (int day = 0; day < 6; day++) {
            for (int ship = 0; ship < 6; ship++) {
                x.call(ship, 5);
            }
            x.blow(1);
        }
        Check.due("thirty-six", x.count(5), 36);
        int[] calls = {2, 3, 4, 0, 1, 5};
        for (int ship = 0; ship < 6; ship++) {
            x.call(ship, calls[ship]);
        }
        x.blow(0);
        Check.due("forty are kept", x.count(5), 40);
        Check.due("the fortieth", x.guess(0), 1);
        Check.due("none beyond", x.guess(1), 31);
        Check.due("nor the last one", x.guess(5), 29);
        Check.due("it was served all the same", x.about(4, 3), 1);
        Check.due("turned on all the same", x.about(5, 4), 7);
        x.call(4, 1);
        x.blow(0);
        Check.due("still none", x.guess(1), 31);
        Check.due("still forty", x.count(5), 40);
    }

    /** Promises 21 and 22. */
    private static void wakes() {
        NamedWind x = Check.seaWith(BOOK, SHIP, 3, FAST, 9);
        Check.due("none before", x.wake(0, 4), 0);
        Check.due("no days yet", x.called(), 1);
        for (int day = 1; day <= 6; day++) {
            Check.due("day " + day, x.then(day), day);
            Check.due("counted", x.count(6), day);
        }
        Check.due("a seventh", x.then(0), FULL);
        Check.due("still six", x.count(6), 6);
        Check.due("a refused one changes nothing", x.wake(2, 0), UNKNOWN);
        Check.due("others are gone", x.wake(1, 0), 6);
        Check.due("counted anew", x.count(6), 0);
        Check.due("from the start", x.then(3), 1);
        Check.due("of a fast from 0", x.called(), 4);
        x.blow(0);
        x.ship(0, 0);
        Check.due("days and ships leave wakes alone", x.wake(0, 0), 1);
    }

    private static void wakesRefused() {
        NamedWind x = Check.seaWith(BOOK, SHIP, 3);
        Check.due("then: none was begun", x.then(10), STATE);
        Check.due("called: none was begun", x.called(), STATE);
        Check.due("by: none was begun", x.by(-1), STATE);
        for (int bad : new int[] {-1, 1, Integer.MAX_VALUE, Integer.MIN_VALUE}) {
            Check.due("wake: no ship", x.wake(bad, 0), UNKNOWN);
        }
        for (int bad : new int[] {-1, 10, Integer.MAX_VALUE, Integer.MIN_VALUE}) {
            Check.due("wake: no place", x.wake(0, bad), UNKNOWN);
        }
        Check.due("nothing was begun", x.then(0), STATE);
        x.wake(0, 0);
        for (int i = 0; i < 6; i++) {
            for (int bad : new int[] {-1, 10, Integer.MAX_VALUE, Integer.MIN_VALUE}) {
                Check.due("then: no place", x.then(bad), UNKNOWN);
            }
            Check.due("by: no such day", x.by(i), UNKNOWN);
            x.then(0);
        }
        Check.due("UNKNOWN ahead of FULL", x.then(10), UNKNOWN);
        Check.due("FULL", x.then(9), FULL);
        for (int bad : new int[] {-1, 6, Integer.MAX_VALUE, Integer.MIN_VALUE}) {
            Check.due("by: no day " + bad, x.by(bad), UNKNOWN);
        }
    }

    private static long ways(NamedWind x, int ship, int... places) {
        x.wake(ship, places[0]);
        for (int i = 1; i < places.length; i++) {
            x.then(places[i]);
        }
        return x.called();
    }

    /** Promise 23. */
    private static void waysOfKinds() {
        NamedWind x = Check.seaWith(BOOK, SHIP, 0, FAST, 0, HEAVY, 9, PILOT, 9, MASTER, 0);
        int[][] want = {
            {0, 20, 2, 0, 2, 4, 0, 0}, {0, 20, 2, 0, 2, 0, 4, 0}, {0, 0, 22, 0, 6, 0, 0, 0},
            {0, 0, 22, 0, 2, 4, 0, 0}, {0, 0, 22, 0, 2, 4, 0, 0}};
        for (int kind = 0; kind < 5; kind++) {
            for (int to = 1; to <= 8; to++) {
                Check.due("kind " + kind + " from 4 to " + to, ways(x, kind, 4, to), want[kind][to - 1]);
            }
        }
        x.call(0, 0);
        x.call(1, 1);
        x.blow(0);
        Check.due("whether spent or not", ways(x, 0, 4, 6), 4);
    }

    private static void waysOfDays() {
        NamedWind x = Check.seaWith(BOOK, SHIP, 0, HEAVY, 0);
        Check.due("two days", ways(x, 0, 4, 6, 5), 8);
        Check.due("three days", ways(x, 0, 4, 6, 5, 3), 160);
        Check.due("one of them can't be", ways(x, 0, 4, 6, 6, 3), 0);
        Check.due("back and on", ways(x, 1, 4, 3, 4, 3, 4), 22 * 6 * 22 * 6);
        NamedWind most = Check.seaWith("-:111/-:111/-:111/-:111", SHIP, 0);
        Check.due("most of all ways", ways(most, 0, 0, 0, 0, 0, 0, 0, 0), 1291467969);
        Check.due("nothing is spent by that", most.count(3), 0);
    }

    private static void waysAtTheEnds() {
        NamedWind x = Check.seaWith(BOOK, SHIP, 0, FAST, 0);
        Check.due("stays at 0", ways(x, 0, 0, 0), 22);
        Check.due("from 1 to 0", ways(x, 0, 1, 0), 22);
        Check.due("from 8 home", ways(x, 0, 8, 9), 6);
        Check.due("from 7 home", ways(x, 0, 7, 9), 4);
        Check.due("a fast from 7 home", ways(x, 1, 7, 9), 4);
        Check.due("a fast from 6 home", ways(x, 1, 6, 9), 4);
        Check.due("a fast not beyond", ways(x, 1, 7, 8), 2);
        Check.due("home stays, calling nothing", ways(x, 0, 9, 9), 4);
        Check.due("home does not drift", ways(x, 0, 9, 8), 0);
        Check.due("home is home", ways(x, 0, 8, 9, 9, 9), 96);
    }

    private static void waysOfWinds() {
        NamedWind x = Check.seaWith("0:090/1:000/-:010/-:000", SHIP, 0);
        Check.due("a wind that never blows", ways(x, 0, 4, 6), 1);
        Check.due("drift by wind 0 alone", ways(x, 0, 4, 5), 1);
        Check.due("drift back by wind 2 alone", ways(x, 0, 4, 3), 1);
        Check.due("turned on", ways(x, 0, 4, 2), 1 + 5 * 2);
        Check.due("a calm by two signs", ways(x, 0, 4, 4), 7);
        Check.due("home by two winds or a calm", ways(x, 0, 9, 9), 3);
        NamedWind calm = Check.seaWith("-:000/-:000/-:000/-:000", SHIP, 0);
        Check.due("calms alone", ways(calm, 0, 4, 4), 7);
        Check.due("nothing blows", ways(calm, 0, 4, 5), 0);
    }

    /** Promise 24. */
    private static void calledBy() {
        NamedWind x = Check.seaWith("3:333/4:300/-:333/-:133", SHIP, 0, HEAVY, 0, FAST, 0);
        ways(x, 0, 4, 5, 7, 6, 8, 9, 9);
        int[] want = {NONE, 6, NONE, 6, 6, NONE};
        for (int day = 0; day < 6; day++) {
            Check.due("by on day " + day, x.by(day), want[day]);
        }
        NamedWind one = Check.seaWith("-:333/4:300/-:333/-:133", SHIP, 0, HEAVY, 0);
        ways(one, 0, 1, 3, 4);
        Check.due("just one name", one.by(0), 4);
        Check.due("nothing was called", one.by(1), NONE);
        one.then(4);
        Check.due("a calm: whatever", one.by(2), 6);
        one.then(9);
        Check.due("no way at all", one.called(), 0);
        Check.due("so not that name", one.by(0), 6);
        Check.due("nor none", one.by(1), 6);
        ways(one, 1, 1, 2);
        Check.due("a heavy: a name or none", one.by(0), 6);
    }

    /** Promise 25. */
    private static void yearsOfNobody() {
        NamedWind x = Check.seaOf(BOOK);
        Check.due("two draws a day", x.years(1, 0, 3), 1406932606);
        Check.due("four in two days", x.years(2, 0, 3), 1449466924);
        Check.due("the greatest seed", x.years(1, Integer.MAX_VALUE, 3), 288979989);
        Check.due("nobody is home", x.years(60, 0, 0), 0);
        Check.due("nobody is anywhere", x.years(60, 0, 1), 0);
        Check.due("nothing is spent", x.years(60, 0, 2), 0);
    }

    private static void yearsOfShips() {
        NamedWind drifts = Check.seaWith(BOOK, SHIP, 4);
        Check.due("sign 0, calls none, wind 0: place", drifts.years(1, 0, 1), 5);
        Check.due("spent", drifts.years(1, 0, 2), 0);
        Check.due("three draws", drifts.years(1, 0, 3), 654583775);
        // Seed 1: sign 2, name 4, then 3 of 10: not above 3 are the tenths of wind 0, but those of 0 and 1 are.
        String book = "01:903/24:053/-:053/3:101";
        NamedWind served = Check.seaWith(book, SHIP, 4);
        Check.due("served", served.years(1, 1, 1), 6);
        Check.due("spent by it", served.years(1, 1, 2), 1);
        NamedWind master = Check.seaWith(book, MASTER, 7);
        Check.due("a master is served", master.years(1, 1, 0), 1);
        Check.due("a master does not spend", master.years(1, 1, 2), 0);
        NamedWind beside = Check.seaWith(book, FAST, 9, SHIP, 4);
        Check.due("who is home draws nothing", beside.years(1, 1, 1), 15);
        Check.due("nor is it counted twice", beside.years(1, 1, 0), 1);
        Check.due("nor the seed", beside.years(1, 1, 3), 662824084);
        // Two ships: names 4 and 5 (of none), then 5 of 10: wind 1.
        NamedWind two = Check.seaWith(book, FAST, 4, FAST, 4);
        Check.due("in their order", two.years(1, 1, 1), 9);
        Check.due("both spend", two.years(1, 1, 2), 2);
        NamedWind calm = Check.seaWith("4:000/-:000/-:000/-:000", SHIP, 4);
        Check.due("a calm", calm.years(60, 1, 1), 4);
    }

    private static void yearsStay() {
        NamedWind x = Check.seaWith("01:903/24:053/-:053/3:101", SHIP, 4, MASTER, 9);
        x.call(0, 4);
        long before = x.digest();
        Check.due("spent now: none is called", x.years(1, 1, 1), 14);
        Check.due("it stays spent", x.years(1, 1, 2), 1);
        x.years(60, 7, 0);
        Check.due("nothing changes", x.digest(), before);
        Check.due("it calls as before", x.about(0, 2), 4);
        x.call(0, 3);
        Check.due("today's call does not serve, the drawn one does", x.years(1, 1, 1), 15);
        Check.due("both are spent", x.years(1, 1, 2), 2);
        x.moon();
        Check.due("only what is drawn", x.years(1, 1, 2), 1);
    }

    private static void yearsRefused() {
        NamedWind x = Check.seaWith(BOOK, SHIP, 4);
        NamedWind none = new NamedWind();
        for (int bad : new int[] {-1, 0, 61, Integer.MAX_VALUE, Integer.MIN_VALUE}) {
            Check.due("years: days " + bad, x.years(bad, 0, 0), OUTSIDE);
            Check.due("years: days ahead of no book", none.years(bad, 0, 0), OUTSIDE);
        }
        for (int bad : new int[] {-1, Integer.MIN_VALUE}) {
            Check.due("years: seed " + bad, x.years(1, bad, 0), OUTSIDE);
            Check.due("years: seed ahead of no book", none.years(1, bad, 0), OUTSIDE);
        }
        for (int bad : new int[] {-1, 4, Integer.MAX_VALUE, Integer.MIN_VALUE}) {
            Check.due("years: what " + bad, x.years(1, 0, bad), OUTSIDE);
            Check.due("years: what ahead of no book", none.years(1, 0, bad), OUTSIDE);
        }
        Check.due("years: no book", none.years(60, 0, 3), STATE);
    }
}
