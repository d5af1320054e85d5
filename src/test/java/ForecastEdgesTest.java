/** Promises 15 to 19, and the terms of what to call: a test of its own for each sentence that tells an edge. */
public final class ForecastEdgesTest {
    private static final int OUTSIDE = NamedWind.OUTSIDE, UNKNOWN = NamedWind.UNKNOWN;
    private static final int STATE = NamedWind.STATE, NONE = NamedWind.NONE;
    private static final int SHIP = 0, FAST = 1, HEAVY = 2, PILOT = 3, MASTER = 4, KINDS = 5;
    /** Who calls nothing drifts on for sure. */
    private static final String ON = "-:555/-:555/-:000/-:000";
    /** One name that serves in nine of ten; else a calm. */
    private static final String NINE = "0:999/-:000/-:000/-:000";
    /** Two such names. */
    private static final String TWO_OF_NINE = "01:999/-:000/-:000/-:000";
    /** In one of thirty a calm, else a wind on. */
    private static final String NEARLY = "-:955/-:055/-:000/-:000";

    public static void main(String[] args) {
        withinJustSoManyDays();
        oneToFourDays();
        likelyOfWhoIsHome();
        likelyAtTheEnds();
        lowestTerms();
        whateverBlows();
        onlyNamesNotSpentNow();
        allNamesSpent();
        calledNamesAreSpentAhead();
        nobodyElseCalls();
        calledToday();
        calledTodayByAMaster();
        moonFreesThem();
        whatNoneFirst();
        whatLeastName();
        whatThisOneToo();
        whatOfWhoIsHome();
        whatOfNothingLeft();
        sureDays();
        sureOfWhoIsHome();
        sureFourAtMost();
        sureInACalm();
        sureByAnySign();
        sureOfWindsThatDoNotBlow();
        sureWhateverIsSpent();
        tellsWithoutABook();
        raceWithinJustSoManyDays();
        raceOneToSixDays();
        raceOfWhoIsHome();
        raceOnTheSameDay();
        raceAtTheLowEnd();
        raceNobodyCalls();
        raceInLowestTerms();
        askingChangesNothing();
        Check.end();
    }

    private static void likely(NamedWind x, int ship, int days, long above, long below) {
        Check.fraction("likely(" + ship + ", " + days + ")", x.likely(ship, days, 0), x.likely(ship, days, 1), above, below);
    }

    private static void race(NamedWind x, int a, int b, int days, long above, long below) {
        String what = "race(" + a + ", " + b + ", " + days + ")";
        Check.fraction(what, x.race(a, b, days, 0), x.race(a, b, days, 1), above, below);
    }

    private static void withinJustSoManyDays() {
        Check.sentence("how likely a SHIP is HOME within so many DAYS");
        for (int kind = 0; kind < KINDS; kind++) {
            for (int far = 0; far <= 9; far++) {
                NamedWind x = Check.seaWith(ON, kind, 9 - far);
                for (int days = 1; days <= 4; days++) {
                    likely(x, 0, days, far <= days ? 1 : 0, 1);
                }
            }
        }
        NamedWind x = Check.seaWith(NEARLY, SHIP, 5);
        likely(x, 0, 3, 0, 1);
        likely(x, 0, 4, 707281, 810000);
    }

    private static void oneToFourDays() {
        Check.sentence("within so many DAYS (1 to 4)");
        NamedWind x = Check.seaWith(ON, SHIP, 8, SHIP, 9);
        for (int ship = 0; ship < 2; ship++) {
            for (int part = 0; part < 2; part++) {
                Check.due("one day", x.likely(ship, 1, part), 1);
                Check.due("four days", x.likely(ship, 4, part), 1);
                Check.due("no day", x.likely(ship, 0, part), OUTSIDE);
                Check.due("five days", x.likely(ship, 5, part), OUTSIDE);
            }
            Check.due("what: no day", x.what(ship, 0, 0), OUTSIDE);
            Check.due("what: one day", x.what(ship, 0, 1), NONE);
            Check.due("what: four days", x.what(ship, 0, 4), NONE);
            Check.due("what: five days", x.what(ship, 0, 5), OUTSIDE);
        }
    }

    private static void likelyOfWhoIsHome() {
        Check.sentence("how likely a SHIP is HOME (who is HOME stays)");
        for (String book : new String[] {ON, NINE, "-:000/-:000/-:999/-:000", "-:000/-:000/-:000/-:000"}) {
            for (int kind = 0; kind < KINDS; kind++) {
                NamedWind x = Check.seaWith(book, kind, 9);
                for (int days = 1; days <= 4; days++) {
                    likely(x, 0, days, 1, 1);
                }
            }
        }
    }

    /** From 7 a fast is home by one name, though it is told to come to 10; from 0 back winds cost nothing. */
    private static void likelyAtTheEnds() {
        Check.sentence("Nobody comes below 0 or beyond 9");
        NamedWind x = Check.seaWith("01:555/-:000/-:555/-:000", FAST, 6, FAST, 7, FAST, 8, MASTER, 0, FAST, 0, FAST, 1);
        for (int ship = 0; ship < 3; ship++) {
            likely(x, ship, 1, 1, 2);
        }
        likely(x, 3, 4, 0, 1);
        // Two names of three places each and a day of drift: the farthest in four days is 8.
        likely(x, 4, 4, 0, 1);
        // From 1 it has to be on by each of four winds; one that turns at 1 or 0 leaves too few days.
        likely(x, 5, 4, 1, 16);
        // A fast that is turned on at 0 loses just a day: it is home by three winds on in a row, or by a turn and these.
        NamedWind low = Check.seaWith("01:555/-:000/23:555/-:000", FAST, 0, MASTER, 1, MASTER, 0);
        likely(low, 0, 3, 1, 8);
        likely(low, 0, 4, 3, 16);
        likely(low, 1, 4, 1, 16);
        likely(low, 2, 4, 0, 1);
    }

    private static void lowestTerms() {
        Check.sentence("a fraction in lowest terms: part 0 above, 1 below");
        NamedWind never = Check.seaWith("-:000/-:000/-:000/-:000", MASTER, 8);
        for (int days = 1; days <= 4; days++) {
            likely(never, 0, days, 0, 1);
        }
        NamedWind x = Check.seaWith(NEARLY, SHIP, 8, SHIP, 7, SHIP, 6, SHIP, 5);
        likely(x, 0, 1, 29, 30);
        likely(x, 1, 2, 841, 900);
        likely(x, 2, 3, 24389, 27000);
        likely(x, 3, 4, 707281, 810000);
        for (int tenths = 1; tenths <= 9; tenths++) {
            NamedWind y = Check.seaWith("-:" + tenths + tenths + tenths + "/-:000/-:000/-:000", HEAVY, 8);
            int shared = tenths == 5 ? 5 : tenths % 2 == 0 ? 2 : 1;
            likely(y, 0, 1, tenths / shared, 10 / shared);
            NamedWind one = Check.seaWith("-:0" + tenths + "0/-:000/-:000/-:000", HEAVY, 8);
            int of = tenths % 2 == 0 ? 2 : 1;
            of *= tenths % 3 == 0 ? 3 : 1;
            of *= tenths % 5 == 0 ? 5 : 1;
            likely(one, 0, 1, tenths / of, 30 / of);
        }
    }

    /** From 8: on in five of ten; back in three, and stayed in two, and then the name in five of ten. */
    private static void whateverBlows() {
        Check.sentence("a WIND blows, or there is a CALM (how likely by its TENTHS)");
        NamedWind x = Check.seaWith("0:555/-:000/-:333/-:000", SHIP, 8, HEAVY, 8, SHIP, 7);
        likely(x, 0, 1, 1, 2);
        likely(x, 0, 2, 3, 4);
        // A heavy needs a day more from 7: on at once, or by a calm and on.
        likely(x, 1, 2, 3, 5);
        // By the name at once, or on by drift and the name, or stayed and the name; not when it was turned back.
        likely(x, 2, 2, 1, 2);
        NamedWind y = Check.seaWith("-:111/-:222/-:333/-:000", MASTER, 8);
        likely(y, 0, 1, 3, 10);
        likely(y, 0, 2, 21, 50);
        likely(y, 0, 3, 99, 200);
    }

    private static void onlyNamesNotSpentNow() {
        Check.sentence("from the NAMES that are not SPENT now");
        NamedWind x = Check.seaWith(TWO_OF_NINE, SHIP, 5, SHIP, 0, SHIP, 0);
        likely(x, 0, 1, 0, 1);
        likely(x, 0, 2, 81, 100);
        x.call(1, 0);
        likely(x, 0, 2, 0, 1);
        likely(x, 0, 3, 729, 1000);
        x.call(2, 1);
        likely(x, 0, 3, 0, 1);
        likely(x, 0, 4, 6561, 10000);
        Check.due("of the names nothing is left", x.what(0, 0, 4), NONE);
    }

    private static void allNamesSpent() {
        Check.sentence("from the NAMES that are not SPENT now (none is left; the last one is)");
        String book = "01:300/23:300/45:300/-:100";
        for (int left = 0; left < 6; left++) {
            for (int kind = 0; kind < KINDS; kind++) {
                NamedWind x = Check.seaWith(book, kind, 8, 0, 1, 0, 1, 0, 1, 0, 1, 0, 1);
                int caller = 1;
                for (int name = 0; name < 6; name++) {
                    if (name != left) {
                        x.call(caller, name);
                        caller++;
                    }
                }
                // From 8 to drift (by six of ten) is better than any name.
                likely(x, 0, 1, 1, 5);
                Check.due("what", x.what(0, 0, 1), NONE);
                NamedWind far = Check.seaWith(book, kind, 7, 0, 1, 0, 1, 0, 1, 0, 1, 0, 1);
                caller = 1;
                for (int name = 0; name < 6; name++) {
                    if (name != left) {
                        far.call(caller, name);
                        caller++;
                    }
                }
                Check.due("the last one that is left", far.what(0, 0, 1), kind == HEAVY ? NONE : left);
                Check.due("helps by this sign alone", far.what(0, 1, 1), NONE);
                likely(far, 0, 1, kind == HEAVY ? 0 : 1, kind == HEAVY ? 1 : 10);
                // A master can't spend it: one that isn't home takes it, and none is left.
                if (kind == MASTER) {
                    far.call(0, left);
                    likely(far, 0, 1, 1, 10);
                    continue;
                }
                far.call(0, left);
                likely(far, 0, 1, 0, 1);
                Check.due("none is left", far.what(0, 0, 1), NONE);
                Check.due("all are spent", far.count(3), 6);
            }
        }
    }

    private static void calledNamesAreSpentAhead() {
        Check.sentence("A NAME that is called is SPENT from then on (a MASTER does not spend it)");
        NamedWind x = Check.seaWith(NINE, SHIP, 7, SHIP, 6, SHIP, 5, MASTER, 5, MASTER, 3, MASTER, 1);
        likely(x, 0, 1, 9, 10);
        likely(x, 1, 2, 81, 100);
        likely(x, 2, 2, 0, 1);
        likely(x, 2, 3, 729, 1000);
        likely(x, 3, 2, 81, 100);
        likely(x, 4, 3, 729, 1000);
        likely(x, 5, 4, 6561, 10000);
        likely(x, 5, 3, 0, 1);
    }

    private static void nobodyElseCalls() {
        Check.sentence("(nobody else calls)");
        for (int kind = 0; kind < KINDS; kind++) {
            NamedWind alone = Check.seaWith(TWO_OF_NINE, kind, 4);
            NamedWind among = Check.seaWith(TWO_OF_NINE, kind, 4, SHIP, 4, FAST, 6, MASTER, 8);
            for (int days = 1; days <= 4; days++) {
                likely(among, 0, days, alone.likely(0, days, 0), alone.likely(0, days, 1));
                Check.due("what", among.what(0, 0, days), alone.what(0, 0, days));
            }
        }
    }

    /** What a call today does to it is what the same name does that was called on a day before. */
    private static void calledToday() {
        Check.sentence("what is called today does not matter, but that it is SPENT by that");
        for (int kind = 0; kind < KINDS; kind++) {
            for (int name = 0; name < 6; name++) {
                NamedWind today = Check.seaWith("02:444/1:333/35:111/4:111", kind, 5, SHIP, 0);
                NamedWind before = Check.seaWith("02:444/1:333/35:111/4:111", kind, 5, SHIP, 0);
                today.call(0, name);
                before.call(0, name);
                before.blow(4);
                for (int days = 1; days <= 4; days++) {
                    likely(today, 0, days, before.likely(0, days, 0), before.likely(0, days, 1));
                    Check.due("what", today.what(0, 1, days), before.what(0, 1, days));
                    Check.due("race", today.race(0, 1, days, 0), before.race(0, 1, days, 0));
                }
                Check.due("sure", today.sure(0), before.sure(0));
                Check.due("tells", today.tells(), before.tells());
            }
        }
        NamedWind x = Check.seaWith(NINE, SHIP, 7);
        x.call(0, 0);
        likely(x, 0, 1, 0, 1);
        Check.due("its own call can't be called again", x.what(0, 0, 1), NONE);
    }

    private static void calledTodayByAMaster() {
        Check.sentence("what is called today does not matter (a MASTER does not spend it)");
        NamedWind x = Check.seaWith(NINE, MASTER, 7, SHIP, 7);
        x.call(0, 0);
        likely(x, 0, 1, 9, 10);
        likely(x, 1, 1, 9, 10);
        Check.due("what it calls today it may call", x.what(0, 0, 1), 0);
        Check.due("another one, too", x.what(1, 2, 1), 0);
        x.call(1, 0);
        likely(x, 0, 1, 0, 1);
        Check.due("spent, a master can't call it neither", x.what(0, 0, 1), NONE);
    }

    private static void moonFreesThem() {
        Check.sentence("not SPENT now (the MOON: no NAME is SPENT any more)");
        NamedWind x = Check.seaWith(NINE, SHIP, 7);
        x.call(0, 0);
        likely(x, 0, 1, 0, 1);
        x.moon();
        likely(x, 0, 1, 9, 10);
        Check.due("it calls it today, and that does not matter", x.what(0, 0, 1), 0);
    }

    private static void whatNoneFirst() {
        Check.sentence("of like ones NONE first");
        for (int kind = 0; kind < KINDS; kind++) {
            NamedWind x = Check.seaWith(NINE, kind, 8, kind, 0, kind, 7);
            Check.due("home by drift as by the name", x.what(0, 0, 1), NONE);
            Check.due("home by neither", x.what(1, 0, 4), NONE);
            Check.due("today or tomorrow", x.what(2, 0, 2), kind == MASTER ? 0 : NONE);
        }
        NamedWind y = Check.seaWith("0:555/1:444/-:000/-:000", SHIP, 8);
        Check.due("drift is better than each name", y.what(0, 0, 1), NONE);
        NamedWind z = Check.seaWith("0:400/-:100/2:500/-:000", SHIP, 8);
        Check.due("five of ten by name 2 as by drift", z.what(0, 0, 1), NONE);
        NamedWind better = Check.seaWith("0:400/-:000/2:500/-:100", SHIP, 8);
        Check.due("five of ten by name 2, four by drift", better.what(0, 0, 1), 2);
    }

    private static void whatLeastName() {
        Check.sentence("of like ones NONE first, then the least NAME");
        for (int a = 0; a < 6; a++) {
            for (int b = 0; b < 6; b++) {
                if (a != b) {
                    NamedWind one = Check.seaWith("-:000/" + a + b + ":333/-:000/-:000", SHIP, 7);
                    Check.due("names " + a + b + " of one wind", one.what(0, 0, 1), Math.min(a, b));
                    NamedWind two = Check.seaWith(a + ":333/-:000/-:000/" + b + ":333", SHIP, 7);
                    Check.due("names " + a + ", " + b + " of two winds", two.what(0, 2, 1), Math.min(a, b));
                    NamedWind more = Check.seaWith(a + ":333/-:000/-:000/" + b + ":343", SHIP, 7);
                    Check.due("by one tenth more: " + b, more.what(0, 1, 1), b);
                }
            }
        }
    }

    private static void whatThisOneToo() {
        Check.sentence("for so many DAYS (this one, too)");
        NamedWind x = Check.seaWith(TWO_OF_NINE, SHIP, 7, SHIP, 6, SHIP, 5, SHIP, 3);
        Check.due("home today", x.what(0, 0, 1), 0);
        Check.due("too far for today", x.what(1, 0, 1), NONE);
        Check.due("two names by tomorrow", x.what(2, 0, 2), 0);
        Check.due("too far for tomorrow", x.what(3, 0, 2), NONE);
        // From 3, two names and two days of drift are six: just four days, in whichever order.
        Check.due("in four days, in any order", x.what(3, 0, 4), NONE);
        Check.due("in three it is too far", x.what(3, 0, 3), NONE);
    }

    private static void whatOfWhoIsHome() {
        Check.sentence("WHAT to call now (who is HOME calls nothing any more)");
        for (int kind = 0; kind < KINDS; kind++) {
            NamedWind x = Check.seaWith("0:900/1:090/2:009/3:111", kind, 9);
            for (int sign = 0; sign < 3; sign++) {
                for (int days = 1; days <= 4; days++) {
                    Check.due("none", x.what(0, sign, days), NONE);
                }
            }
        }
    }

    private static void whatOfNothingLeft() {
        Check.sentence("WHAT to call now, by a SIGN (one by which its WIND has no TENTHS)");
        NamedWind x = Check.seaWith("0:900/1:090/2:009/3:000", MASTER, 7);
        Check.due("by sign 0", x.what(0, 0, 1), 0);
        Check.due("by sign 1", x.what(0, 1, 1), 1);
        Check.due("by sign 2", x.what(0, 2, 1), 2);
        NamedWind calms = Check.seaWith("0:000/1:000/2:000/3:000", MASTER, 7);
        for (int sign = 0; sign < 3; sign++) {
            Check.due("by calms alone", calms.what(0, sign, 4), NONE);
        }
    }

    private static void sureDays() {
        Check.sentence("SURE: in how many DAYS it is HOME at the soonest for sure");
        for (int kind = 0; kind < KINDS; kind++) {
            for (int place = 0; place <= 9; place++) {
                NamedWind x = Check.seaWith("0:195/1:915/-:000/-:000", kind, place);
                Check.due("kind " + kind + " from " + place, x.sure(0), place < 5 ? NONE : 9 - place);
            }
        }
    }

    private static void sureOfWhoIsHome() {
        Check.sentence("SURE (0: it is HOME)");
        for (String book : new String[] {ON, NINE, "-:000/-:000/-:999/-:111", "-:000/-:000/-:000/-:000"}) {
            NamedWind x = Check.seaWith(book, SHIP, 9, MASTER, 9, FAST, 8);
            Check.due("a ship", x.sure(0), 0);
            Check.due("a master", x.sure(1), 0);
            Check.due("at 8 it is not", x.sure(2), book.equals(ON) ? 1 : NONE);
        }
    }

    private static void sureFourAtMost() {
        Check.sentence("4 at most; none");
        NamedWind x = Check.seaWith(ON, SHIP, 5, SHIP, 4, FAST, 4, MASTER, 4, SHIP, 0);
        Check.due("four days", x.sure(0), 4);
        for (int ship = 1; ship < 5; ship++) {
            Check.due("more than four", x.sure(ship), NONE);
        }
        x.blow(0);
        Check.due("a day on", x.sure(1), 4);
        x.blow(2);
        Check.due("a day back", x.sure(1), NONE);
    }

    private static void sureInACalm() {
        Check.sentence("whatever blows (a CALM, too, where it can be)");
        for (int sign = 0; sign < 3; sign++) {
            StringBuilder book = new StringBuilder("0:555/1:555/-:000/-:000");
            book.setCharAt(2 + sign, '4');
            for (int kind = 0; kind < KINDS; kind++) {
                Check.due("one tenth by sign " + sign, Check.seaWith(book.toString(), kind, 8).sure(0), NONE);
            }
        }
        Check.due("no calm at all", Check.seaWith("0:555/1:555/-:000/-:000", SHIP, 8).sure(0), 1);
    }

    private static void sureByAnySign() {
        Check.sentence("(A SIGN comes first, whichever ..)");
        for (int sign = 0; sign < 3; sign++) {
            for (int wind = 2; wind < 4; wind++) {
                StringBuilder book = new StringBuilder("-:555/-:555/0:000/1:000");
                book.setCharAt(2 + sign, '4');
                book.setCharAt(2 + sign + 6 * wind, '1');
                for (int kind = 0; kind < KINDS; kind++) {
                    Check.due("wind " + wind + " by sign " + sign, Check.seaWith(book.toString(), kind, 8).sure(0), NONE);
                }
            }
        }
    }

    private static void sureOfWindsThatDoNotBlow() {
        Check.sentence("a WIND without TENTHS by it does not blow");
        Check.due("winds 2 and 3 never", Check.seaWith("0:999/1:111/2:000/3:000", SHIP, 8).sure(0), 1);
        Check.due("of their names neither", Check.seaWith("-:999/-:111/01:000/23:000", HEAVY, 7).sure(0), 2);
        Check.due("a wind of another sign", Check.seaWith("-:990/-:110/-:009/-:001", HEAVY, 8).sure(0), NONE);
    }

    private static void sureWhateverIsSpent() {
        Check.sentence("if always the best is called");
        NamedWind x = Check.seaWith("01:555/23:555/-:000/-:000", SHIP, 6, FAST, 6, SHIP, 1, SHIP, 1, SHIP, 1, SHIP, 1);
        for (int ship = 2; ship < 6; ship++) {
            Check.due("a name miscalled is not sure", x.sure(0), 3);
            x.call(ship, ship - 2);
        }
        Check.due("all names spent", x.sure(0), 3);
        Check.due("of a fast, too", x.sure(1), 3);
    }

    private static void tellsWithoutABook() {
        Check.sentence("TELLS. STATE: no BOOK");
        NamedWind x = new NamedWind();
        Check.write(x, ON);
        Check.due("not read yet", x.tells(), STATE);
        x.book();
        Check.due("read", x.tells(), 0);
    }

    private static void raceWithinJustSoManyDays() {
        Check.sentence("how likely the first is HOME before the second one, within so many DAYS");
        for (int far = 1; far <= 9; far++) {
            for (int behind = 0; behind < 9 - far; behind++) {
                NamedWind x = Check.seaWith(ON, SHIP, 9 - far, MASTER, behind);
                for (int days = 1; days <= 6; days++) {
                    race(x, 0, 1, days, far <= days ? 1 : 0, 1);
                    race(x, 1, 0, days, 0, 1);
                }
            }
        }
    }

    private static void raceOneToSixDays() {
        Check.sentence("so many DAYS (1 to 6)");
        NamedWind x = Check.seaWith(ON, SHIP, 8, SHIP, 3, SHIP, 2);
        Check.due("no day", x.race(0, 1, 0, 0), OUTSIDE);
        Check.due("one day", x.race(0, 1, 1, 0), 1);
        Check.due("five days are too few", x.race(1, 2, 5, 0), 0);
        Check.due("six days", x.race(1, 2, 6, 0), 1);
        Check.due("seven days", x.race(1, 2, 7, 0), OUTSIDE);
    }

    private static void raceOfWhoIsHome() {
        Check.sentence("(sure, if it is HOME now, and the second one is not)");
        for (String book : new String[] {ON, NINE, "-:000/-:000/-:000/-:000", "-:000/-:000/-:999/-:000"}) {
            NamedWind x = Check.seaWith(book, SHIP, 9, FAST, 8, MASTER, 9);
            for (int days = 1; days <= 6; days++) {
                race(x, 0, 1, days, 1, 1);
                race(x, 1, 0, days, 0, 1);
                race(x, 0, 2, days, 0, 1);
                race(x, 2, 0, days, 0, 1);
                race(x, 2, 1, days, 1, 1);
            }
        }
        NamedWind x = Check.seaWith(ON, SHIP, 9);
        Check.due("of one alone there is no race", x.race(0, 0, 1, 0), UNKNOWN);
    }

    private static void raceOnTheSameDay() {
        Check.sentence("HOME before the second one (on the same DAY is not before)");
        for (int place = 0; place <= 9; place++) {
            NamedWind x = Check.seaWith(NEARLY, SHIP, place, FAST, place);
            for (int days = 1; days <= 6; days++) {
                race(x, 0, 1, days, 0, 1);
                race(x, 1, 0, days, 0, 1);
            }
        }
    }

    /** Who is held at 0 needs nine winds on, which are too many for six days. */
    private static void raceAtTheLowEnd() {
        Check.sentence("Nobody comes below 0 (in a RACE)");
        NamedWind x = Check.seaWith("-:555/-:000/-:555/-:000", SHIP, 1, SHIP, 0, SHIP, 6);
        race(x, 0, 1, 6, 0, 1);
        race(x, 1, 0, 6, 0, 1);
        race(x, 1, 2, 6, 0, 1);
        race(x, 2, 1, 2, 0, 1);
        race(x, 2, 1, 3, 1, 8);
        race(x, 2, 1, 4, 1, 8);
        race(x, 2, 1, 5, 7, 32);
        race(x, 2, 1, 6, 7, 32);
    }

    private static void raceNobodyCalls() {
        Check.sentence("from where they are, nobody calls");
        for (int kind = 0; kind < KINDS; kind++) {
            NamedWind x = Check.seaWith(TWO_OF_NINE, kind, 8, kind, 7, kind, 0);
            race(x, 0, 1, 1, 9, 10);
            race(x, 1, 0, 6, 0, 1);
            race(x, 1, 2, 1, 0, 1);
            race(x, 1, 2, 2, 81, 100);
            x.call(0, 0);
            x.call(1, 1);
            race(x, 0, 1, 1, 9, 10);
            race(x, 1, 2, 1, 0, 1);
        }
    }

    private static void raceInLowestTerms() {
        Check.sentence("A RACE: part 0 above, 1 below (lowest terms)");
        NamedWind x = Check.seaWith(NEARLY, SHIP, 3, SHIP, 0, SHIP, 4, SHIP, 8);
        race(x, 0, 1, 5, 0, 1);
        race(x, 0, 1, 6, 594823321, 729000000);
        race(x, 2, 1, 5, 20511149, 24300000);
        race(x, 2, 1, 6, 143578043, 145800000);
        race(x, 3, 1, 1, 29, 30);
        race(x, 3, 1, 6, 728999999, 729000000);
    }

    private static void askingChangesNothing() {
        Check.sentence("what to call, a RACE: asked, nothing changes");
        NamedWind x = Twins.full();
        long before = x.digest();
        for (int ship = 0; ship < 6; ship++) {
            x.likely(ship, 4, 0);
            x.what(ship, 2, 4);
            x.sure(ship);
            x.race(ship, (ship + 1) % 6, 5, 1);
        }
        x.tells();
        Check.due("all is as it was", x.digest(), before);
        Check.due("the call of today", x.about(0, 2), 1);
    }
}
