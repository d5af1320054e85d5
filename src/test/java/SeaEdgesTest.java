/** Promises 8 to 14, and the terms of ships and days: a test of its own for each sentence that tells an edge. */
public final class SeaEdgesTest {
    private static final int UNKNOWN = NamedWind.UNKNOWN, STATE = NamedWind.STATE;
    private static final int FULL = NamedWind.FULL, NONE = NamedWind.NONE;
    private static final int SHIP = 0, FAST = 1, HEAVY = 2, PILOT = 3, MASTER = 4, KINDS = 5;
    private static final int NAMES = 6, CALM = 4, HOME = 9;
    /** Each wind has a name of its own number; 4 is wind 3's, too, and 5 is of none. */
    private static final String BOOK = "0:432/1:321/2:210/34:101";
    private static final int[] WIND_OF = {0, 1, 2, 3, 3, NONE};

    interface Moved {
        int from(int kind, int place, int call, int wind);
    }

    public static void main(String[] args) {
        sixAtMost();
        numbered();
        roomAgain();
        atAPlace();
        ofAKind();
        itsOwnNumber();
        allAreShips();
        aMasterIsAPilot();
        noneSuch();
        nothingYet();
        howOften();
        oneNameADay();
        noneIsGood();
        whatThatWas();
        inPlace();
        anotherOneThatSpendsIt();
        anotherOneThatDoesNot();
        spentByItToo();
        spentTillTheMoon();
        aMasterDoesNotSpend();
        aMasterMayNotCallWhatIsSpent();
        refusedCallsSpendNothing();
        serves();
        turns();
        drifts();
        allStayInACalm();
        nobodyBelowZero();
        nobodyBeyondNine();
        homeStays();
        homeCallsNothing();
        howManyAreHome();
        theNextDay();
        nobodyCallsYet();
        windsWithoutTenths();
        moonOfNoneAndAll();
        moonChangesNothingElse();
        Check.end();
    }

    private static NamedWind one(int kind, int place) {
        return Check.seaWith(BOOK, kind, place);
    }

    private static void sixAtMost() {
        Check.sentence("SHIPS (6 at most, numbered)");
        for (int kind = 0; kind < KINDS; kind++) {
            NamedWind x = Check.seaOf(BOOK);
            for (int i = 0; i < 6; i++) {
                Check.due("ship " + i, x.ship(kind, i), i);
            }
            Check.due("the seventh", x.ship(kind, 6), FULL);
            Check.due("the eighth", x.ship(0, 9), FULL);
            Check.due("six of them", x.count(1), 6);
            Check.due("the last one", x.about(5, 1), 5);
            Check.due("no one behind it", x.about(6, 1), UNKNOWN);
        }
    }

    private static void numbered() {
        Check.sentence("A SHIP: its number");
        NamedWind x = Check.seaOf(BOOK);
        for (int i = 0; i < 6; i++) {
            Check.due("not there yet", x.about(i, 0), UNKNOWN);
            Check.due("the next number", x.ship((i + 2) % KINDS, 9 - i), i);
            for (int earlier = 0; earlier <= i; earlier++) {
                Check.due("kind", x.about(earlier, 0), (earlier + 2) % KINDS);
                Check.due("place", x.about(earlier, 1), 9 - earlier);
            }
        }
    }

    private static void roomAgain() {
        Check.sentence("6 at most; those that come since are gone by restore()");
        NamedWind x = one(SHIP, 4);
        x.image();
        for (int times = 0; times < 3; times++) {
            for (int i = 1; i < 6; i++) {
                Check.due("room for it", x.ship(MASTER - times, i), i);
            }
            Check.due("and no more", x.ship(0, 0), FULL);
            Check.due("one is left", x.restore(), 1);
        }
    }

    private static void atAPlace() {
        Check.sentence("PLACES 0 to 9 in a row; 9 is HOME");
        for (int place = 0; place <= 9; place++) {
            NamedWind x = one(SHIP, place);
            Check.due("its place", x.about(0, 1), place);
            Check.due("home", x.count(2), place == 9 ? 1 : 0);
            Check.due("calls", x.call(0, NONE), place == 9 ? STATE : NONE);
        }
        Check.due("no place -1", one(SHIP, 0).ship(SHIP, -1), UNKNOWN);
        Check.due("no place 10", one(SHIP, 0).ship(SHIP, 10), UNKNOWN);
    }

    private static void ofAKind() {
        Check.sentence("0 SHIP, 1 FAST, 2 HEAVY, 3 PILOT, 4 MASTER");
        for (int kind = 0; kind < KINDS; kind++) {
            Check.due("its kind", one(kind, 3).about(0, 0), kind);
        }
        Check.due("none below", one(SHIP, 0).ship(-1, 3), NamedWind.OUTSIDE);
        Check.due("none above", one(SHIP, 0).ship(5, 3), NamedWind.OUTSIDE);
    }

    private static void itsOwnNumber() {
        Check.sentence("its own number (not that of the KIND)");
        for (int kind = 0; kind < KINDS; kind++) {
            NamedWind x = Check.seaWith(BOOK, kind, 0, kind, 1, kind, 2, kind, 3, kind, 4, kind, 5);
            for (int ship = 0; ship < 6; ship++) {
                Check.due("as its kind", x.as(ship, kind), ship);
                Check.due("as a ship", x.as(ship, SHIP), ship);
            }
        }
    }

    private static void allAreShips() {
        Check.sentence("All are SHIPS");
        for (int kind = 0; kind < KINDS; kind++) {
            Check.due("kind " + kind, one(kind, 3).as(0, SHIP), 0);
            Check.due("kind " + kind + " that is home", one(kind, 9).as(0, SHIP), 0);
        }
    }

    private static void aMasterIsAPilot() {
        Check.sentence("a MASTER is a PILOT, too");
        Check.due("a master as a pilot", one(MASTER, 3).as(0, PILOT), 0);
        Check.due("a pilot as a master", one(PILOT, 3).as(0, MASTER), NONE);
        Check.due("it stays a master", one(MASTER, 3).about(0, 0), MASTER);
    }

    private static void noneSuch() {
        Check.sentence("NONE: it is none such (the cast fails)");
        NamedWind x = Check.seaWith(BOOK, SHIP, 0, FAST, 1, HEAVY, 2, PILOT, 3, MASTER, 4);
        for (int ship = 0; ship < KINDS; ship++) {
            for (int kind = 1; kind < KINDS; kind++) {
                boolean is = ship == kind || (ship == MASTER && kind == PILOT);
                Check.due(ship + " as " + kind, x.as(ship, kind), is ? ship : NONE);
            }
        }
    }

    private static void nothingYet() {
        Check.sentence("2 what it CALLS today (NONE), 3 how often it was SERVED, 4 how often a WIND TURNED on it");
        for (int kind = 0; kind < KINDS; kind++) {
            NamedWind x = one(kind, 4);
            Check.due("calls", x.about(0, 2), NONE);
            Check.due("served", x.about(0, 3), 0);
            Check.due("turned on", x.about(0, 4), 0);
            x.call(0, 0);
            Check.due("calls name 0, which is not none", x.about(0, 2), 0);
            Check.due("served by the wind alone", x.about(0, 3), 0);
            x.call(0, 5);
            Check.due("calls name 5", x.about(0, 2), 5);
            Check.due("turned on by the wind alone", x.about(0, 4), 0);
        }
    }

    private static void howOften() {
        Check.sentence("how often it was SERVED, how often a WIND TURNED on it (at the ends of the row, too)");
        NamedWind x = Check.seaWith(BOOK, MASTER, 0, SHIP, 5);
        for (int day = 1; day <= 12; day++) {
            x.call(0, 5);
            x.blow(2);
            Check.due("turned on at 0", x.about(0, 4), day);
            Check.due("served", x.about(0, 3), 0);
        }
        for (int day = 1; day <= 5; day++) {
            x.call(0, 0);
            x.blow(0);
            Check.due("served", x.about(0, 3), day);
        }
        x.blow(0);
        Check.due("not when it is home", x.about(0, 3), 5);
        Check.due("turned on so often", x.about(0, 4), 12);
        Check.due("who called nothing was not served", x.about(1, 3), 0);
        Check.due("nor turned on", x.about(1, 4), 0);
    }

    private static void oneNameADay() {
        Check.sentence("each SHIP may CALL one NAME .. before it blows");
        NamedWind x = one(SHIP, 4);
        for (int name = 0; name < NAMES; name++) {
            x.call(0, name);
            Check.due("it calls just that", x.about(0, 2), name);
            Check.due("one name is spent", x.count(3), 1);
        }
        x.blow(0);
        Check.due("one answer", x.count(5), 1);
        Check.due("it was the last one that it called", x.about(0, 1), 2);
        Check.due("of the first one nothing is known", x.guess(0), 31);
    }

    private static void noneIsGood() {
        Check.sentence("(or none, NONE) .. UNKNOWN: ship, name (NONE is good)");
        NamedWind x = one(SHIP, 4);
        Check.due("none", x.call(0, NONE), NONE);
        Check.due("none again", x.call(0, NONE), NONE);
        Check.due("nothing is spent", x.count(3), 0);
        for (int name = 0; name < NAMES; name++) {
            x.call(0, name);
            Check.due("none in place of " + name, x.call(0, NONE), name);
            Check.due("it is not spent", x.spent(name), 0);
            Check.due("it calls nothing", x.about(0, 2), NONE);
        }
        x.blow(0);
        Check.due("it drifts", x.about(0, 1), 5);
        Check.due("-2 is no name", x.call(0, -2), UNKNOWN);
    }

    private static void whatThatWas() {
        Check.sentence("what that was (NONE)");
        NamedWind x = Check.seaWith(BOOK, SHIP, 4, MASTER, 4);
        for (int ship = 0; ship < 2; ship++) {
            Check.due("nothing so far", x.call(ship, 0), NONE);
            Check.due("0, which is not none", x.call(ship, 5), 0);
            Check.due("5", x.call(ship, NONE), 5);
            Check.due("none", x.call(ship, ship), NONE);
            x.blow(CALM);
            Check.due("nothing so far today", x.call(ship, 4 - ship), NONE);
            x.moon();
        }
    }

    private static void inPlace() {
        Check.sentence("in place of what it CALLED so far today (which is not SPENT by it then)");
        for (int before = 0; before < NAMES; before++) {
            for (int name = NONE; name < NAMES; name++) {
                NamedWind x = Check.seaWith(BOOK, HEAVY, 4, SHIP, 4);
                x.call(0, before);
                boolean same = name == before;
                Check.due(name + " in place of " + before, x.call(0, name), same ? STATE : before);
                Check.due("spent " + before, x.spent(before), same ? 1 : 0);
                Check.due("spent in all", x.count(3), name == NONE ? 0 : 1);
                Check.due("it is another one's now", x.call(1, before), same ? STATE : NONE);
            }
        }
        NamedWind x = one(SHIP, 4);
        x.call(0, 2);
        x.blow(CALM);
        x.call(0, 3);
        Check.due("of yesterday: stays spent", x.spent(2), 1);
        x.call(0, NONE);
        Check.due("and is not freed with today's", x.spent(2), 1);
        Check.due("which is", x.spent(3), 0);
    }

    /** After a moon two can call one name, both of which spend it. */
    private static void anotherOneThatSpendsIt() {
        Check.sentence("but if another one that SPENDS it CALLS it today, too");
        for (int spender = SHIP; spender < MASTER; spender++) {
            for (int name = 0; name < NAMES; name++) {
                NamedWind x = Check.seaWith(BOOK, SHIP, 4, spender, 4);
                x.call(0, name);
                x.moon();
                Check.due("the other one, too", x.call(1, name), NONE);
                Check.due("in place", x.call(0, NONE), name);
                Check.due("spent by the other one", x.spent(name), 1);
                Check.due("the other one in place", x.call(1, NONE), name);
                Check.due("spent by nobody", x.spent(name), 0);
            }
        }
        for (int first = 0; first < 6; first++) {
            for (int second = 0; second < 6; second++) {
                if (first != second) {
                    NamedWind six = Check.seaWith(BOOK, SHIP, 4, SHIP, 4, SHIP, 4, SHIP, 4, SHIP, 4, SHIP, 4);
                    six.call(first, 3);
                    six.moon();
                    six.call(second, 3);
                    Check.due(second + " in place", six.call(second, 4), 3);
                    Check.due("spent by " + first, six.spent(3), 1);
                    Check.due(first + " in place", six.call(first, NONE), 3);
                    Check.due("spent by none of six", six.spent(3), 0);
                }
            }
        }
        NamedWind x = Check.seaWith(BOOK, SHIP, 4, MASTER, 4, FAST, 4);
        x.call(1, 3);
        x.call(2, 3);
        Check.due("a master changes its call", x.call(1, NONE), 3);
        Check.due("the fast one spends it", x.spent(3), 1);
        x.call(2, NONE);
        Check.due("nobody does", x.spent(3), 0);
    }

    private static void anotherOneThatDoesNot() {
        Check.sentence("another one that SPENDS it (a MASTER does not)");
        for (int kind = SHIP; kind < MASTER; kind++) {
            NamedWind x = Check.seaWith(BOOK, MASTER, 4, kind, 4, MASTER, 4);
            x.call(0, 2);
            x.call(2, 2);
            x.call(1, 2);
            Check.due("spent by kind " + kind, x.spent(2), 1);
            Check.due("in place", x.call(1, 3), 2);
            Check.due("masters call it, and it is not spent", x.spent(2), 0);
            Check.due("they call it still", x.about(0, 2), 2);
            Check.due("both of them", x.about(2, 2), 2);
        }
    }

    private static void spentByItToo() {
        Check.sentence("STATE: .. the NAME is SPENT (by it, too)");
        for (int kind = SHIP; kind < MASTER; kind++) {
            NamedWind x = Check.seaWith(BOOK, kind, 4, MASTER, 4);
            x.call(0, 3);
            Check.due("by it, today", x.call(0, 3), STATE);
            Check.due("it calls it still", x.about(0, 2), 3);
            Check.due("for another one", x.call(1, 3), STATE);
            x.blow(CALM);
            Check.due("by it, before", x.call(0, 3), STATE);
            Check.due("for another one, the next day", x.call(1, 3), STATE);
            x.moon();
            Check.due("behind the moon", x.call(0, 3), NONE);
        }
    }

    private static void spentTillTheMoon() {
        Check.sentence("A NAME that is called is SPENT from then on till the MOON");
        NamedWind x = Check.seaWith(BOOK, SHIP, 4, FAST, 4, HEAVY, 4, PILOT, 4);
        for (int name = 0; name < NAMES; name++) {
            Check.due("not yet", x.spent(name), 0);
            x.call(name % 4, name);
            Check.due("from then on", x.spent(name), 1);
            x.blow(name % 5);
            Check.due("behind the day", x.spent(name), 1);
        }
        for (int wind = 0; wind <= CALM; wind++) {
            x.blow(wind);
            Check.due("behind wind " + wind, x.count(3), NAMES);
        }
        x.moon();
        for (int name = 0; name < NAMES; name++) {
            Check.due("till the moon", x.spent(name), 0);
        }
    }

    private static void aMasterDoesNotSpend() {
        Check.sentence("a MASTER does not spend it");
        NamedWind x = Check.seaWith(BOOK, MASTER, 4, MASTER, 4);
        for (int name = 0; name < NAMES; name++) {
            x.call(0, name);
            Check.due("the other master may call it", x.call(1, name), name - 1);
            Check.due("again", x.call(0, name), name);
            Check.due("not spent", x.spent(name), 0);
        }
        x.blow(3);
        Check.due("nor behind the day", x.count(3), 0);
    }

    private static void aMasterMayNotCallWhatIsSpent() {
        Check.sentence("each SHIP may CALL one NAME that is not SPENT (a MASTER, too)");
        NamedWind x = Check.seaWith(BOOK, MASTER, 4, SHIP, 4);
        x.call(0, 1);
        x.call(1, 1);
        Check.due("spent behind its call", x.call(0, 1), STATE);
        Check.due("its call stands", x.about(0, 2), 1);
        x.blow(1);
        Check.due("and serves it", x.about(0, 1), 6);
        Check.due("the next day", x.call(0, 1), STATE);
    }

    private static void refusedCallsSpendNothing() {
        Check.sentence("Refusals .. change nothing (call)");
        Twins.Maker sea = () -> {
            NamedWind x = Check.seaWith(BOOK, SHIP, 4, FAST, 4, PILOT, 9);
            x.call(0, 1);
            x.call(1, 2);
            return x;
        };
        Twins.refused("a spent one in place", sea, x -> x.call(0, 2), STATE);
        Twins.refused("its own once more", sea, x -> x.call(1, 2), STATE);
        Twins.refused("no name in place", sea, x -> x.call(1, 6), UNKNOWN);
        Twins.refused("by who is home", sea, x -> x.call(2, 3), STATE);
        Twins.refused("by nobody", sea, x -> x.call(3, 3), UNKNOWN);
    }

    /** Every kind from every place with every call by every wind, as far as a sentence tells of it. */
    private static void moves(String sentence, int leastCall, int mostCall, int leastWind, int mostWind, Moved moved) {
        Check.sentence(sentence);
        for (int kind = 0; kind < KINDS; kind++) {
            for (int call = leastCall; call <= mostCall; call++) {
                for (int wind = leastWind; wind <= mostWind; wind++) {
                    for (int place = 0; place < HOME; place++) {
                        NamedWind x = one(kind, place);
                        x.call(0, call);
                        x.blow(wind);
                        int to = moved.from(kind, place, call, wind);
                        String what = "a " + kind + " at " + place + " calling " + call + ", wind " + wind;
                        if (to != UNKNOWN) {
                            Check.due(what, x.about(0, 1), Math.max(0, Math.min(HOME, to)));
                        }
                    }
                }
            }
        }
    }

    private static void serves() {
        int[] on = {2, 3, 1, 2, 2};
        moves("If it is one of the WIND that blows, that SERVES who called it: 2 PLACES on (a FAST 3, a HEAVY 1)",
            0, 5, 0, 3, (kind, place, call, wind) -> WIND_OF[call] == wind ? place + on[kind] : UNKNOWN);
    }

    private static void turns() {
        int[] back = {2, 2, 1, 1, 1};
        moves("If it is not, the WIND TURNS on him: 2 PLACES back (a HEAVY 1; a PILOT, a MASTER 1)",
            0, 5, 0, 3, (kind, place, call, wind) -> WIND_OF[call] != wind ? place - back[kind] : UNKNOWN);
    }

    private static void drifts() {
        moves("Who called nothing drifts: 1 PLACE on by WINDS 0 and 1, 1 back by 2 and 3",
            NONE, NONE, 0, 3, (kind, place, call, wind) -> wind < 2 ? place + 1 : place - 1);
    }

    private static void allStayInACalm() {
        moves("In a CALM all stay, whatever they called", NONE, 5, CALM, CALM, (kind, place, call, wind) -> place);
        NamedWind x = one(SHIP, 4);
        x.call(0, 0);
        x.blow(CALM);
        Check.due("nobody is served", x.about(0, 3), 0);
        Check.due("on nobody it turns", x.about(0, 4), 0);
        Check.due("that is no answer", x.count(5), 0);
        Check.due("a name of no wind is spent, too", x.spent(0), 1);
    }

    private static void nobodyBelowZero() {
        Check.sentence("Nobody comes below 0");
        for (int kind = 0; kind < KINDS; kind++) {
            NamedWind drifting = one(kind, 1);
            drifting.blow(3);
            Check.due("drifts to 0", drifting.about(0, 1), 0);
            drifting.blow(2);
            Check.due("no farther", drifting.about(0, 1), 0);
            drifting.blow(0);
            Check.due("and on from 0", drifting.about(0, 1), 1);
            for (int place = 0; place <= 1; place++) {
                NamedWind turned = one(kind, place);
                turned.call(0, 5);
                turned.blow(1);
                Check.due("turned on at " + place, turned.about(0, 1), 0);
                turned.call(0, 1);
                turned.blow(1);
                Check.due("served from 0", turned.about(0, 1), kind == FAST ? 3 : kind == HEAVY ? 1 : 2);
            }
        }
    }

    private static void nobodyBeyondNine() {
        Check.sentence("Nobody comes .. beyond 9");
        for (int kind = 0; kind < KINDS; kind++) {
            for (int place = 6; place < HOME; place++) {
                NamedWind served = one(kind, place);
                served.call(0, 3);
                int by = kind == FAST ? 3 : kind == HEAVY ? 1 : 2;
                Check.due("home", served.blow(3), place + by >= HOME ? 1 : 0);
                Check.due("from " + place, served.about(0, 1), Math.min(HOME, place + by));
                Check.due("it was served", served.about(0, 3), 1);
            }
            NamedWind drifting = one(kind, 8);
            Check.due("drifts home", drifting.blow(1), 1);
            Check.due("no farther", drifting.blow(1), 1);
            Check.due("it is at 9", drifting.about(0, 1), HOME);
        }
    }

    private static void homeStays() {
        Check.sentence("who is HOME stays");
        for (int kind = 0; kind < KINDS; kind++) {
            NamedWind put = one(kind, 9);
            NamedWind come = one(kind, 8);
            come.call(0, 0);
            come.blow(0);
            for (NamedWind x : new NamedWind[] {put, come}) {
                for (int wind = 0; wind <= CALM; wind++) {
                    Check.due("home by " + wind, x.blow(wind), 1);
                    Check.due("at its place", x.about(0, 1), HOME);
                }
                Check.due("nothing turned on it", x.about(0, 4), 0);
            }
            Check.due("put there, it was never served", put.about(0, 3), 0);
            Check.due("no answers of who is home", come.count(5), 1);
        }
    }

    private static void homeCallsNothing() {
        Check.sentence("who is HOME .. calls nothing any more");
        for (int kind = 0; kind < KINDS; kind++) {
            NamedWind x = Check.seaWith(BOOK, kind, 8, kind, 9);
            Check.due("at 8 it calls", x.call(0, 1), NONE);
            Check.due("at 9 not", x.call(1, 2), STATE);
            Check.due("nor none", x.call(1, NONE), STATE);
            x.blow(1);
            Check.due("what it called on the way is over", x.about(0, 2), NONE);
            for (int name = NONE; name < NAMES; name++) {
                Check.due("come home: name " + name, x.call(0, name), STATE);
            }
        }
    }

    private static void howManyAreHome() {
        Check.sentence("how many are HOME then (0 to 6)");
        for (int home = 0; home <= 6; home++) {
            NamedWind x = Check.seaOf(BOOK);
            NamedWind put = Check.seaOf(BOOK);
            for (int i = 0; i < 6; i++) {
                x.ship(i % KINDS, i < home ? 8 : 7);
                put.ship(i % KINDS, i < home ? 9 : 0);
            }
            Check.due("none in a calm", x.blow(CALM), 0);
            Check.due("drifted home", x.blow(0), home);
            Check.due("put home", put.blow(CALM), home);
            Check.due("counted", put.count(2), home);
        }
        Check.due("no ships", Check.seaOf(BOOK).blow(0), 0);
    }

    private static void theNextDay() {
        Check.sentence("it is the next DAY");
        NamedWind x = Check.seaOf(BOOK);
        for (int day = 0; day < 12; day++) {
            Check.due("days", x.count(4), day);
            x.blow(day % 5);
        }
        x.moon();
        x.blow(5);
        x.blow(-1);
        Check.due("refused, it is the same day", x.count(4), 12);
    }

    private static void nobodyCallsYet() {
        Check.sentence("it is the next DAY, nobody calls yet");
        for (int wind = 0; wind <= CALM; wind++) {
            NamedWind x = Check.seaWith(BOOK, SHIP, 4, FAST, 4, HEAVY, 4, PILOT, 4, MASTER, 4, SHIP, 8);
            for (int ship = 0; ship < 6; ship++) {
                x.call(ship, ship);
            }
            x.blow(wind);
            for (int ship = 0; ship < 6; ship++) {
                Check.due("ship " + ship + " behind wind " + wind, x.about(ship, 2), NONE);
            }
            int at = x.about(0, 1);
            x.blow(0);
            Check.due("so it drifts", x.about(0, 1), at + 1);
        }
    }

    private static void windsWithoutTenths() {
        Check.sentence("A WIND blows (whichever; UNKNOWN: wind (0 to 4))");
        NamedWind x = Check.seaWith("0:000/-:000/-:000/-:000", SHIP, 4);
        x.call(0, 0);
        Check.due("a wind without tenths", x.blow(0), 0);
        Check.due("serves all the same", x.about(0, 1), 6);
        NamedWind noCalm = Check.seaWith("-:555/-:555/-:000/-:000", SHIP, 4);
        Check.due("a calm without tenths", noCalm.blow(CALM), 0);
        Check.due("stays all the same", noCalm.about(0, 1), 4);
    }

    private static void moonOfNoneAndAll() {
        Check.sentence("no NAME is SPENT any more: how many were (0 to 6)");
        for (int spent = 0; spent <= NAMES; spent++) {
            NamedWind x = Check.seaWith(BOOK, SHIP, 4, SHIP, 4, SHIP, 4, SHIP, 4, SHIP, 4, SHIP, 4);
            for (int name = NAMES - spent; name < NAMES; name++) {
                x.call(name, name);
            }
            Check.due("counted", x.count(3), spent);
            Check.due("how many were", x.moon(), spent);
            Check.due("none any more", x.moon(), 0);
            Check.due("counted then", x.count(3), 0);
        }
        Check.due("without a book", new NamedWind().moon(), 0);
    }

    private static void moonChangesNothingElse() {
        Check.sentence("The MOON: no NAME is SPENT any more");
        NamedWind x = Check.seaWith(BOOK, SHIP, 4, PILOT, 8);
        x.call(0, 2);
        x.blow(2);
        x.call(0, 3);
        int[] before = new int[15];
        for (int i = 0; i < 15; i++) {
            before[i] = i < 10 ? x.about(i / 5, i % 5) : x.guess(i - 10);
        }
        x.moon();
        for (int i = 0; i < 15; i++) {
            Check.due("as it was " + i, i < 10 ? x.about(i / 5, i % 5) : x.guess(i - 10), before[i]);
        }
        Check.due("the same day", x.count(4), 1);
        Check.due("the same answers", x.count(5), 1);
    }
}
