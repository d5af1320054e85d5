/** Promises 8 to 14: ships, what they call, and days. */
public final class ShipsTest {
    private static final int UNKNOWN = NamedWind.UNKNOWN, OUTSIDE = NamedWind.OUTSIDE;
    private static final int STATE = NamedWind.STATE, FULL = NamedWind.FULL, NONE = NamedWind.NONE;
    private static final int[] BAD = {-1, 6, -2, Integer.MAX_VALUE, Integer.MIN_VALUE};
    private static final String BOOK = "01:903/2:053/-:053/3:101";
    private static final int[] SERVED = {2, 3, 1, 2, 2};
    private static final int[] TURNED = {2, 2, 1, 1, 1};

    public static void main(String[] args) {
        shipsCome();
        shipsRefused();
        told();
        takenAsKinds();
        calls();
        callsInPlace();
        callsRefused();
        mastersDoNotSpend();
        calledByAnotherToo();
        windsBlow();
        ends();
        homeStays();
        blowRefused();
        moons();
        Check.end();
    }

    /** Promise 8. */
    private static void shipsCome() {
        NamedWind x = Check.seaOf(BOOK);
        for (int i = 0; i < 6; i++) {
            Check.due("ship " + i, x.ship(i % 5, i == 5 ? 9 : i), i);
            Check.due("its kind", x.about(i, 0), i % 5);
            Check.due("its place", x.about(i, 1), i == 5 ? 9 : i);
            Check.due("how many", x.count(1), i + 1);
        }
        Check.due("a seventh", x.ship(0, 0), FULL);
        Check.due("still six", x.count(1), 6);
        Check.due("one home", x.count(2), 1);
    }

    private static void shipsRefused() {
        NamedWind none = new NamedWind();
        NamedWind x = Check.seaOf(BOOK);
        NamedWind full = Check.seaOf(BOOK);
        for (int i = 0; i < 6; i++) {
            full.ship(0, 0);
        }
        for (int bad : new int[] {-1, 10, Integer.MAX_VALUE, Integer.MIN_VALUE}) {
            Check.due("place ahead of kind", x.ship(-1, bad), UNKNOWN);
            Check.due("place ahead of no book", none.ship(0, bad), UNKNOWN);
            Check.due("place ahead of FULL", full.ship(0, bad), UNKNOWN);
        }
        for (int bad : new int[] {-1, 5, Integer.MAX_VALUE, Integer.MIN_VALUE}) {
            Check.due("kind", x.ship(bad, 0), OUTSIDE);
            Check.due("kind ahead of no book", none.ship(bad, 0), OUTSIDE);
            Check.due("kind ahead of FULL", full.ship(bad, 0), OUTSIDE);
        }
        Check.due("no book", none.ship(0, 9), STATE);
        Check.due("none came", x.count(1), 0);
    }

    /** Promise 9. */
    private static void told() {
        NamedWind x = Check.seaOf(BOOK);
        x.ship(3, 4);
        x.ship(1, 5);
        int[] first = {3, 4, NONE, 0, 0};
        for (int what = 0; what < 5; what++) {
            Check.due("about " + what, x.about(0, what), first[what]);
        }
        x.call(0, 2);
        x.call(1, 0);
        Check.due("calls", x.about(0, 2), 2);
        x.blow(1);
        int[] served = {3, 6, NONE, 1, 0};
        int[] turned = {1, 3, NONE, 0, 1};
        for (int what = 0; what < 5; what++) {
            Check.due("served: about " + what, x.about(0, what), served[what]);
            Check.due("turned: about " + what, x.about(1, what), turned[what]);
        }
        for (int bad : new int[] {-1, 2, 6, Integer.MAX_VALUE, Integer.MIN_VALUE}) {
            Check.due("no ship " + bad, x.about(bad, 0), UNKNOWN);
            Check.due("no ship ahead of what", x.about(bad, -1), UNKNOWN);
        }
        for (int bad : new int[] {-1, 5, Integer.MAX_VALUE, Integer.MIN_VALUE}) {
            Check.due("what " + bad, x.about(1, bad), OUTSIDE);
        }
    }

    /** Promise 10. */
    private static void takenAsKinds() {
        NamedWind x = Check.seaOf(BOOK);
        for (int kind = 4; kind >= 0; kind--) {
            x.ship(kind, 0);
        }
        for (int ship = 0; ship < 5; ship++) {
            int own = 4 - ship;
            for (int kind = 0; kind < 5; kind++) {
                boolean is = kind == 0 || kind == own || (own == 4 && kind == 3);
                Check.due("a " + own + " as a " + kind, x.as(ship, kind), is ? ship : NONE);
            }
        }
        Check.due("no ship", x.as(5, 0), UNKNOWN);
        Check.due("no ship -1", x.as(-1, 0), UNKNOWN);
        Check.due("no ship ahead of kind", x.as(5, 9), UNKNOWN);
        Check.due("kind 5", x.as(0, 5), OUTSIDE);
        Check.due("kind -1", x.as(0, -1), OUTSIDE);
    }

    /** Promises 11 and 12. */
    private static void calls() {
        NamedWind x = Check.seaOf(BOOK);
        x.ship(0, 3);
        x.ship(1, 3);
        Check.due("none before", x.call(0, 5), NONE);
        for (int name = 0; name < 6; name++) {
            Check.due("spent " + name, x.spent(name), name == 5 ? 1 : 0);
        }
        Check.due("counted", x.count(3), 1);
        Check.due("another one calls it", x.call(1, 5), STATE);
        Check.due("again by itself", x.call(0, 5), STATE);
        Check.due("none by the other", x.call(1, NONE), NONE);
        x.blow(4);
        Check.due("spent in a calm, too", x.spent(5), 1);
        Check.due("the next day", x.call(0, 5), STATE);
        Check.due("another name", x.call(0, 0), NONE);
        x.blow(2);
        Check.due("two are spent", x.count(3), 2);
        for (int bad : BAD) {
            Check.due("spent of no name", x.spent(bad), UNKNOWN);
        }
    }

    private static void callsInPlace() {
        NamedWind x = Check.seaOf(BOOK);
        x.ship(0, 3);
        x.ship(1, 3);
        x.call(0, 5);
        Check.due("in place of 5", x.call(0, 4), 5);
        Check.due("5 is free again", x.spent(5), 0);
        Check.due("4 is spent", x.spent(4), 1);
        Check.due("5 for another one", x.call(1, 5), NONE);
        Check.due("refused", x.call(0, 5), STATE);
        Check.due("it still calls 4", x.about(0, 2), 4);
        Check.due("none in place of 4", x.call(0, NONE), 4);
        Check.due("4 is free again", x.spent(4), 0);
        Check.due("none in place of none", x.call(0, NONE), NONE);
        x.call(0, 2);
        x.blow(1);
        Check.due("what is told is of today", x.call(0, NONE), NONE);
        Check.due("of yesterday it stays spent", x.spent(2), 1);
        x.moon();
        x.call(0, 2);
        x.moon();
        Check.due("the same again behind the moon", x.call(0, 2), 2);
        Check.due("spent again", x.spent(2), 1);
        x.moon();
        Check.due("in place of a name not spent any more", x.call(0, 3), 2);
        Check.due("it is not spent", x.spent(2), 0);
    }

    private static void callsRefused() {
        NamedWind x = Check.seaOf(BOOK);
        x.ship(0, 9);
        x.ship(0, 3);
        for (int bad : new int[] {-1, 2, 6, Integer.MAX_VALUE, Integer.MIN_VALUE}) {
            Check.due("no ship " + bad, x.call(bad, 0), UNKNOWN);
        }
        for (int bad : new int[] {-2, 6, Integer.MAX_VALUE, Integer.MIN_VALUE}) {
            Check.due("no name " + bad, x.call(1, bad), UNKNOWN);
            Check.due("no name ahead of home", x.call(0, bad), UNKNOWN);
        }
        Check.due("home", x.call(0, 0), STATE);
        Check.due("home calls none neither", x.call(0, NONE), STATE);
        Check.due("nothing spent", x.count(3), 0);
    }

    private static void mastersDoNotSpend() {
        NamedWind x = Check.seaOf(BOOK);
        x.ship(4, 5);
        x.ship(4, 5);
        x.ship(3, 5);
        Check.due("a master", x.call(0, 0), NONE);
        Check.due("not spent", x.spent(0), 0);
        Check.due("again", x.call(0, 0), 0);
        Check.due("another master", x.call(1, 0), NONE);
        Check.due("a pilot", x.call(2, 0), NONE);
        Check.due("spent by the pilot", x.spent(0), 1);
        Check.due("a master may not call it then", x.call(0, 0), STATE);
        Check.due("a master calls another one", x.call(0, 1), 0);
        Check.due("it stays spent by the pilot", x.spent(0), 1);
        Check.due("the pilot calls another one", x.call(2, 2), 0);
        Check.due("not spent, though a master calls it", x.spent(0), 0);
        x.blow(0);
        Check.due("the master is served", x.about(0, 1), 7);
        Check.due("the other one, too", x.about(1, 1), 7);
        Check.due("the pilot is turned on", x.about(2, 1), 4);
        Check.due("only 2 is spent", x.count(3), 1);
        Check.due("a spent name for a master", x.call(0, 2), STATE);
    }

    private static void calledByAnotherToo() {
        NamedWind x = Check.seaOf(BOOK);
        x.ship(0, 3);
        x.ship(1, 3);
        x.call(0, 0);
        x.moon();
        x.call(1, 0);
        Check.due("the first one calls another", x.call(0, 1), 0);
        Check.due("still spent by the second one", x.spent(0), 1);
        x.moon();
        x.call(0, 0);
        Check.due("the second one takes it back", x.call(1, NONE), 0);
        Check.due("still spent by the first one", x.spent(0), 1);
        x.call(1, 4);
        x.moon();
        x.call(0, 4);
        x.moon();
        Check.due("both call it, and it is not spent", x.call(0, NONE), 4);
        Check.due("that spends nothing", x.spent(4), 0);
    }

    /** Promise 13. */
    private static void windsBlow() {
        for (int kind = 0; kind < 5; kind++) {
            for (int call = NONE; call < 6; call++) {
                for (int wind = 0; wind <= 4; wind++) {
                    oneDay(kind, call, wind);
                }
            }
        }
    }

    private static void oneDay(int kind, int call, int wind) {
        int[] winds = {0, 0, 1, 3, NONE, NONE};
        NamedWind x = Check.seaOf(BOOK);
        x.ship(kind, 4);
        x.call(0, call);
        String what = "kind " + kind + " calls " + call + ", wind " + wind;
        boolean serves = call != NONE && wind != 4 && winds[call] == wind;
        boolean turns = call != NONE && wind != 4 && !serves;
        int place = 4;
        if (serves) {
            place += SERVED[kind];
        } else if (turns) {
            place -= TURNED[kind];
        } else if (wind != 4) {
            place += wind < 2 ? 1 : -1;
        }
        Check.due(what, x.blow(wind), 0);
        Check.due(what + ": place", x.about(0, 1), place);
        Check.due(what + ": calls", x.about(0, 2), NONE);
        Check.due(what + ": served", x.about(0, 3), serves ? 1 : 0);
        Check.due(what + ": turned", x.about(0, 4), turns ? 1 : 0);
        Check.due(what + ": days", x.count(4), 1);
        Check.due(what + ": answers", x.count(5), serves || turns ? 1 : 0);
    }

    private static void ends() {
        NamedWind x = Check.seaOf(BOOK);
        x.ship(0, 1);
        x.ship(1, 7);
        x.ship(0, 0);
        x.ship(0, 8);
        x.call(0, 2);
        x.call(1, 0);
        Check.due("two are home", x.blow(0), 2);
        Check.due("not below 0", x.about(0, 1), 0);
        Check.due("not beyond 9", x.about(1, 1), 9);
        Check.due("drifted on", x.about(2, 1), 1);
        Check.due("drifted home", x.about(3, 1), 9);
        x.blow(3);
        x.blow(2);
        Check.due("drifted back to 0", x.about(2, 1), 0);
        x.moon();
        x.call(2, 5);
        x.blow(1);
        Check.due("turned on at 0", x.about(2, 1), 0);
        Check.due("that counts", x.about(2, 4), 1);
    }

    private static void homeStays() {
        NamedWind x = Check.seaOf(BOOK);
        x.ship(0, 9);
        x.ship(4, 7);
        x.call(1, 0);
        Check.due("both home", x.blow(0), 2);
        for (int wind = 0; wind <= 4; wind++) {
            Check.due("home stays by " + wind, x.blow(wind), 2);
        }
        Check.due("place", x.about(0, 1), 9);
        Check.due("the other one", x.about(1, 1), 9);
        Check.due("no turns", x.about(1, 4), 0);
        Check.due("days", x.count(4), 6);
        Check.due("answers", x.count(5), 1);
        Check.due("calls nothing any more", x.call(1, 1), STATE);
    }

    private static void blowRefused() {
        NamedWind x = Check.seaOf(BOOK);
        for (int bad : new int[] {-1, 5, Integer.MAX_VALUE, Integer.MIN_VALUE}) {
            Check.due("no wind " + bad, x.blow(bad), UNKNOWN);
            Check.due("no wind ahead of no book", new NamedWind().blow(bad), UNKNOWN);
        }
        Check.due("no day went", x.count(4), 0);
        Check.due("no book", new NamedWind().blow(4), STATE);
        Check.due("no ships", x.blow(4), 0);
        Check.due("a wind without tenths", x.blow(3), 0);
        Check.due("two days", x.count(4), 2);
    }

    /** Promise 14. */
    private static void moons() {
        NamedWind x = Check.seaOf(BOOK);
        for (int i = 0; i < 6; i++) {
            x.ship(0, 5);
        }
        for (int i = 0; i < 6; i++) {
            x.call(i, i);
        }
        Check.due("all six", x.count(3), 6);
        Check.due("the moon", x.moon(), 6);
        Check.due("none", x.count(3), 0);
        Check.due("the moon again", x.moon(), 0);
        Check.due("today's calls stay", x.about(3, 2), 3);
        x.blow(3);
        Check.due("they answer", x.about(3, 1), 7);
        Check.due("not spent by the wind", x.spent(3), 0);
        Check.due("the moon is no day", x.count(4), 1);
    }
}
