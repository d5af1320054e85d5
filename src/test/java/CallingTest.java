/** Promises 15 to 17 and 19: what to call, and the race. */
public final class CallingTest {
    private static final int UNKNOWN = NamedWind.UNKNOWN, OUTSIDE = NamedWind.OUTSIDE, NONE = NamedWind.NONE;
    private static final int SHIP = 0, FAST = 1, HEAVY = 2, PILOT = 3, MASTER = 4;
    private static final int[] NO_SHIP = {-1, 2, 6, Integer.MAX_VALUE, Integer.MIN_VALUE};
    /** Winds 0 and 1, each in half of all days: who calls nothing drifts on for sure. */
    private static final String BOTH_ON = "0:555/1:555/-:000/-:000";
    /** Wind 0 or a calm. */
    private static final String HALF_CALM = "0:555/-:000/-:000/-:000";
    /** Each sign is for one wind. */
    private static final String BY_SIGN = "0:900/1:090/2:009/3:111";

    public static void main(String[] args) {
        likelyByDrift();
        likelyByNames();
        likelyByKinds();
        likelyByTheMoon();
        likelyRefused();
        whatBySign();
        whatOfLikeOnes();
        whatRefused();
        sure();
        sureIsNot();
        races();
        racesOfBoth();
        racesRefused();
        Check.end();
    }

    private static void likely(NamedWind x, int ship, int days, long above, long below) {
        Check.fraction("likely(" + ship + ", " + days + ")", x.likely(ship, days, 0), x.likely(ship, days, 1), above, below);
    }

    private static void race(NamedWind x, int a, int b, int days, long above, long below) {
        String what = "race(" + a + ", " + b + ", " + days + ")";
        Check.fraction(what, x.race(a, b, days, 0), x.race(a, b, days, 1), above, below);
    }

    private static void likelyByDrift() {
        NamedWind x = Check.seaWith(BOTH_ON, SHIP, 9, SHIP, 8, SHIP, 7, SHIP, 6, SHIP, 5, SHIP, 0);
        for (int days = 1; days <= 4; days++) {
            likely(x, 0, days, 1, 1);
            likely(x, 1, days, 1, 1);
        }
        likely(x, 2, 1, 1, 2);
        likely(x, 2, 2, 1, 1);
        likely(x, 3, 1, 0, 1);
        likely(x, 3, 2, 1, 2);
        likely(x, 3, 3, 1, 1);
        likely(x, 4, 2, 1, 4);
        likely(x, 4, 4, 1, 1);
        likely(x, 5, 4, 0, 1);
        NamedWind calm = Check.seaWith("0:000/-:000/-:000/-:000", FAST, 8, MASTER, 9);
        likely(calm, 0, 4, 0, 1);
        likely(calm, 1, 4, 1, 1);
    }

    private static void likelyByNames() {
        NamedWind x = Check.seaWith(BY_SIGN, SHIP, 7, SHIP, 5);
        likely(x, 0, 1, 9, 10);
        // The second day's sign is another one in two of three, else the name of wind 3 is left.
        likely(x, 1, 2, 57, 100);
        NamedWind noNames = Check.seaWith("-:955/-:055/-:000/-:000", SHIP, 8, SHIP, 7);
        likely(noNames, 0, 1, 29, 30);
        likely(noNames, 1, 1, 0, 1);
        likely(noNames, 1, 2, 841, 900);
    }

    private static void likelyByKinds() {
        NamedWind x = Check.seaWith(HALF_CALM, SHIP, 7, MASTER, 7, FAST, 6, HEAVY, 7, PILOT, 7);
        likely(x, 0, 1, 1, 2);
        // Called in a calm the name is spent, but not by a master.
        likely(x, 0, 2, 1, 2);
        likely(x, 1, 2, 3, 4);
        likely(x, 4, 2, 1, 2);
        likely(x, 2, 1, 1, 2);
        likely(x, 3, 1, 0, 1);
        likely(x, 3, 2, 1, 4);
        // A fast calls once it is at 6, a master again behind a miscalled wind; a heavy need not call at all.
        NamedWind y = Check.seaWith("0:000/1:555/-:555/-:000", SHIP, 7, FAST, 7, HEAVY, 8, PILOT, 7, MASTER, 7);
        likely(y, 0, 3, 1, 2);
        likely(y, 1, 3, 5, 8);
        likely(y, 2, 3, 5, 8);
        likely(y, 3, 3, 1, 2);
        likely(y, 4, 3, 5, 8);
    }

    private static void likelyByTheMoon() {
        NamedWind x = Check.seaWith(BOTH_ON, SHIP, 5, SHIP, 0, MASTER, 5);
        likely(x, 0, 2, 1, 4);
        x.call(1, 0);
        likely(x, 0, 2, 0, 1);
        likely(x, 2, 2, 1, 4);
        x.call(1, NONE);
        likely(x, 0, 2, 1, 4);
        x.call(0, 1);
        likely(x, 0, 2, 0, 1);
        likely(x, 2, 2, 1, 4);
        x.moon();
        likely(x, 0, 2, 1, 4);
        Check.due("it calls still", x.about(0, 2), 1);
        x.call(0, 1);
        x.call(1, 0);
        likely(x, 2, 2, 0, 1);
        Check.due("nothing changed", x.count(3), 2);
    }

    private static void likelyRefused() {
        NamedWind x = Check.seaWith(BOTH_ON, SHIP, 5, SHIP, 9);
        for (int bad : NO_SHIP) {
            Check.due("likely: no ship", x.likely(bad, 1, 0), UNKNOWN);
            Check.due("likely: no ship first", x.likely(bad, 9, 9), UNKNOWN);
        }
        for (int bad : new int[] {-1, 0, 5, Integer.MAX_VALUE, Integer.MIN_VALUE}) {
            Check.due("likely: days", x.likely(0, bad, 1), OUTSIDE);
            Check.due("likely: days of who is home", x.likely(1, bad, 1), OUTSIDE);
        }
        for (int bad : new int[] {-1, 2, Integer.MAX_VALUE, Integer.MIN_VALUE}) {
            Check.due("likely: part", x.likely(0, 1, bad), OUTSIDE);
        }
    }

    private static void whatBySign() {
        NamedWind x = Check.seaWith(BY_SIGN, SHIP, 7, SHIP, 9, SHIP, 8);
        for (int sign = 0; sign < 3; sign++) {
            Check.due("of the wind of sign " + sign, x.what(0, sign, 1), sign);
            Check.due("home calls nothing", x.what(1, sign, 4), NONE);
        }
        Check.due("drift by sign 0 is like name 0", x.what(2, 0, 1), NONE);
        Check.due("drift by sign 1 is like name 1", x.what(2, 1, 1), NONE);
        Check.due("by sign 2 a name", x.what(2, 2, 1), 2);
        x.call(2, 2);
        Check.due("that is spent", x.what(2, 2, 1), 3);
        Check.due("for another one, too", x.what(0, 2, 1), 3);
        x.call(0, 3);
        Check.due("all good ones are spent", x.what(2, 2, 1), NONE);
        // What counts is all days that are left: today's name may be kept for a better one.
        NamedWind y = Check.seaWith("0:190/-:810/-:000/-:000", SHIP, 6);
        Check.due("kept for another day", y.what(0, 0, 2), NONE);
        Check.due("called today", y.what(0, 1, 2), 0);
        Check.due("too far for one day", y.what(0, 1, 1), NONE);
    }

    private static void whatOfLikeOnes() {
        NamedWind x = Check.seaWith("54:333/23:333/-:000/-:000", SHIP, 7, FAST, 4, SHIP, 0);
        Check.due("the least name", x.what(0, 0, 1), 2);
        x.call(1, 2);
        Check.due("the least that is not spent", x.what(0, 0, 1), 3);
        x.call(2, 3);
        Check.due("the least of the other wind", x.what(0, 0, 1), 4);
        Check.due("nothing helps", x.what(2, 0, 4), NONE);
        NamedWind y = Check.seaWith("1:444/0:444/-:000/-:000", SHIP, 7);
        Check.due("like ones of two winds", y.what(0, 2, 1), 0);
        Check.due("none is like the names", y.what(0, 2, 4), NONE);
    }

    private static void whatRefused() {
        NamedWind x = Check.seaWith(BOTH_ON, SHIP, 5, SHIP, 9);
        for (int bad : NO_SHIP) {
            Check.due("what: no ship", x.what(bad, 0, 1), UNKNOWN);
        }
        for (int bad : new int[] {-1, 3, Integer.MAX_VALUE, Integer.MIN_VALUE}) {
            Check.due("what: no sign", x.what(0, bad, 1), UNKNOWN);
            Check.due("what: no sign ahead of days", x.what(1, bad, 0), UNKNOWN);
        }
        for (int bad : new int[] {-1, 0, 5, Integer.MAX_VALUE, Integer.MIN_VALUE}) {
            Check.due("what: days", x.what(0, 0, bad), OUTSIDE);
            Check.due("what: days of who is home", x.what(1, 0, bad), OUTSIDE);
        }
    }

    /** Promise 17. */
    private static void sure() {
        for (String book : new String[] {BOTH_ON, "-:955/-:155/-:000/-:000", "0:946/5:164/-:000/-:000"}) {
            NamedWind x = Check.seaWith(book, SHIP, 9, FAST, 8, HEAVY, 7, PILOT, 6, MASTER, 5, SHIP, 4);
            for (int ship = 0; ship < 5; ship++) {
                Check.due("sure of " + (9 - ship), x.sure(ship), ship);
            }
            Check.due("five days are too many", x.sure(5), NONE);
        }
        NamedWind x = Check.seaWith(BOTH_ON, FAST, 6);
        x.call(0, 0);
        Check.due("what it calls today does not matter", x.sure(0), 3);
    }

    private static void sureIsNot() {
        Check.due("a calm by one sign", Check.seaWith("0:955/1:154/-:000/-:000", MASTER, 8).sure(0), NONE);
        Check.due("a wind back by one sign", Check.seaWith("0:955/1:154/-:001/-:000", MASTER, 8).sure(0), NONE);
        Check.due("its own name is not enough", Check.seaWith("0:999/-:000/-:000/3:111", MASTER, 8).sure(0), NONE);
        Check.due("home in a calm", Check.seaWith("0:000/-:000/-:000/-:000", MASTER, 9).sure(0), 0);
        for (int bad : NO_SHIP) {
            Check.due("sure: no ship", Check.seaWith(BOTH_ON, SHIP, 3, SHIP, 4).sure(bad), UNKNOWN);
        }
    }

    /** Promise 19. */
    private static void races() {
        NamedWind x = Check.seaWith("-:555/-:000/-:555/-:000", SHIP, 8, SHIP, 0, SHIP, 7, MASTER, 9, FAST, 8, SHIP, 9);
        race(x, 0, 1, 1, 1, 2);
        race(x, 0, 1, 2, 1, 2);
        race(x, 0, 1, 3, 5, 8);
        race(x, 0, 2, 3, 5, 8);
        race(x, 0, 1, 4, 5, 8);
        race(x, 0, 1, 5, 11, 16);
        race(x, 0, 1, 6, 11, 16);
        race(x, 2, 0, 6, 0, 1);
        race(x, 0, 4, 6, 0, 1);
        race(x, 4, 2, 1, 1, 2);
        race(x, 2, 1, 2, 1, 4);
        for (int days = 1; days <= 6; days++) {
            race(x, 3, 0, days, 1, 1);
            race(x, 0, 3, days, 0, 1);
            race(x, 3, 5, days, 0, 1);
            race(x, 5, 3, days, 0, 1);
        }
    }

    private static void racesOfBoth() {
        NamedWind x = Check.seaWith(BOTH_ON, SHIP, 5, SHIP, 0, SHIP, 6, SHIP, 3);
        race(x, 0, 1, 3, 0, 1);
        race(x, 0, 1, 4, 1, 1);
        race(x, 2, 0, 3, 1, 1);
        race(x, 3, 1, 6, 1, 1);
        race(x, 3, 1, 5, 0, 1);
        x.call(0, 0);
        race(x, 0, 1, 3, 0, 1);
        // Back at 0 both are alike and stay so.
        NamedWind y = Check.seaWith("-:000/-:100/-:999/-:000", SHIP, 1, SHIP, 0, SHIP, 8);
        race(y, 0, 1, 6, 0, 1);
        race(y, 2, 1, 1, 1, 30);
        // A calm by sign 0 in half of its days.
        NamedWind z = Check.seaWith("-:500/-:055/-:055/-:000", HEAVY, 8, MASTER, 2);
        race(z, 0, 1, 1, 1, 2);
        race(z, 0, 1, 2, 7, 12);
    }

    private static void racesRefused() {
        NamedWind x = Check.seaWith(BOTH_ON, SHIP, 5, SHIP, 9);
        for (int bad : NO_SHIP) {
            Check.due("race: no first ship", x.race(bad, 1, 1, 0), UNKNOWN);
            Check.due("race: no second ship", x.race(0, bad, 1, 0), UNKNOWN);
            Check.due("race: no ships", x.race(bad, bad, 0, 2), UNKNOWN);
        }
        Check.due("race: the same", x.race(1, 1, 1, 0), UNKNOWN);
        Check.due("race: the same ahead of days", x.race(0, 0, 7, 0), UNKNOWN);
        for (int bad : new int[] {-1, 0, 7, Integer.MAX_VALUE, Integer.MIN_VALUE}) {
            Check.due("race: days", x.race(0, 1, bad, 0), OUTSIDE);
            Check.due("race: days of who is home", x.race(1, 0, bad, 0), OUTSIDE);
        }
        for (int bad : new int[] {-1, 2, Integer.MAX_VALUE, Integer.MIN_VALUE}) {
            Check.due("race: part", x.race(0, 1, 6, bad), OUTSIDE);
        }
    }
}
