/** Promises 20 to 29, and the terms of what is told back: a test of its own for each sentence that tells an edge. */
public final class BackEdgesTest {
    private static final int OUTSIDE = NamedWind.OUTSIDE, UNKNOWN = NamedWind.UNKNOWN;
    private static final int STATE = NamedWind.STATE, FULL = NamedWind.FULL, NONE = NamedWind.NONE;
    private static final int SHIP = 0, FAST = 1, HEAVY = 2, PILOT = 3, MASTER = 4, KINDS = 5;
    private static final int NAMES = 6, CALM = 4, HOME = 9;
    /** Each wind has a name of its own number; 4 is wind 3's, too, and 5 is of none; calms can be. */
    private static final String BOOK = "0:432/1:321/2:210/34:101";
    private static final int[] WIND_OF = {0, 1, 2, 3, 3, NONE};

    public static void main(String[] args) {
        answersOfWhoCalled();
        answersOfWhoIsHome();
        fortyAtMost();
        fortyInTheMiddleOfADay();
        roomForAnswersAgain();
        guessOfNothing();
        guessOfWhatServed();
        guessOfWhatTurned();
        guessWhateverTheBookSays();
        wakeHowManyThereWere();
        wakeOthersAreGone();
        wakeOfItsKind();
        wakeStaysWithItsShip();
        thenSixAtMost();
        thenEveryPlace();
        calledOfNoDays();
        calledOfNoWays();
        calledByKind();
        calledBySomeSign();
        calledInACalm();
        calledOfWhoIsHome();
        calledAtTheEnds();
        calledWhetherSpent();
        byNoneOrAName();
        byNotTheSame();
        byNoWays();
        byEachDay();
        yearsOneToSixty();
        yearsSeeds();
        yearsDrawOfThree();
        yearsDrawOfSeven();
        yearsDrawOfTen();
        yearsWhoIsHomeDrawsNothing();
        yearsByNumber();
        yearsSpentStays();
        yearsCalledToday();
        yearsMasters();
        yearsTellAndStay();
        imageWithoutABook();
        imageOfNothing();
        imageTheLatest();
        imageKeepsPlaces();
        imageKeepsHowOften();
        imageKeepsWhatIsSpent();
        imageKeepsDays();
        imageKeepsAnswers();
        imageGoneShips();
        restoreNobodyCalls();
        restoreNoWake();
        restoreLeavesThePage();
        restoreBehindABook();
        countsFromNoneToAll();
        digestOfEverySea();
        digestWraps();
        lastCalls();
        Check.end();
    }

    // ---- answers

    private static void answersOfWhoCalled() {
        Check.sentence("kept for all who called a NAME while a WIND blew");
        for (int call = NONE; call < NAMES; call++) {
            for (int wind = 0; wind <= CALM; wind++) {
                NamedWind x = Check.seaWith(BOOK, SHIP, 4, MASTER, 4);
                x.call(0, call);
                x.blow(wind);
                Check.due("call " + call + ", wind " + wind, x.count(5), call == NONE || wind == CALM ? 0 : 1);
            }
        }
        NamedWind x = Check.seaWith(BOOK, SHIP, 4, FAST, 4, HEAVY, 4, PILOT, 4, MASTER, 4, SHIP, 4);
        for (int ship = 0; ship < 6; ship++) {
            x.call(ship, ship);
        }
        Check.due("none before it blows", x.count(5), 0);
        x.blow(3);
        Check.due("of all six", x.count(5), 6);
        x.blow(3);
        Check.due("nobody called on the next day", x.count(5), 6);
    }

    private static void answersOfWhoIsHome() {
        Check.sentence("who is HOME stays and calls nothing any more: no ANSWERS of it");
        NamedWind x = Check.seaWith(BOOK, SHIP, 9, MASTER, 8);
        x.call(0, 0);
        x.blow(0);
        Check.due("at home from the first", x.count(5), 0);
        Check.due("drifted home", x.count(2), 2);
        x.call(1, 0);
        x.blow(0);
        Check.due("none neither", x.count(5), 0);
        Check.due("nothing is known", x.guess(0), 31);
    }

    /** Six masters call name 5 on each day but those that are to tell more. */
    private static NamedWind answers(int many) {
        NamedWind x = Check.seaWith(BOOK, MASTER, 4, MASTER, 4, MASTER, 4, MASTER, 4, MASTER, 4, MASTER, 4);
        for (int left = many; left > 0; left -= 6) {
            for (int ship = 0; ship < Math.min(6, left); ship++) {
                x.call(ship, 5);
            }
            x.blow(2);
        }
        return x;
    }

    private static void fortyAtMost() {
        Check.sentence("(40 at most; none is kept beyond)");
        for (int many = 0; many <= 44; many++) {
            Check.due(many + " answers", answers(many).count(5), Math.min(40, many));
        }
        NamedWind last = answers(39);
        last.call(5, 0);
        last.blow(0);
        Check.due("the fortieth is kept", last.guess(0), 1);
        Check.due("forty", last.count(5), 40);
        NamedWind beyond = answers(40);
        beyond.call(5, 0);
        beyond.blow(0);
        Check.due("the next one is not", beyond.guess(0), 31);
        Check.due("forty still", beyond.count(5), 40);
        Check.due("it was served all the same", beyond.about(5, 3), 1);
        beyond.call(5, 1);
        beyond.blow(0);
        Check.due("turned on all the same", beyond.about(5, 4), answers(40).about(5, 4) + 1);
        Check.due("and that tells nothing neither", beyond.guess(1), 31);
        Check.due("what was known stays", beyond.guess(5), 31 - 4);
        Check.due("nothing is refused", beyond.call(5, 2), NONE);
    }

    private static void fortyInTheMiddleOfADay() {
        Check.sentence("(40 at most; none is kept beyond): of one DAY some");
        for (int had = 34; had <= 40; had++) {
            NamedWind x = answers(had);
            for (int ship = 0; ship < 6; ship++) {
                x.call(ship, ship == 5 ? 5 : ship);
            }
            x.blow(0);
            int kept = 40 - had;
            Check.due("forty", x.count(5), 40);
            for (int name = 0; name < 5; name++) {
                int told = name == 0 ? 1 : 30;
                Check.due("name " + name + " behind " + had, x.guess(name), name < kept ? told : 31);
            }
            Check.due("name 5 behind " + had, x.guess(5), kept > 5 ? 26 : 27);
        }
    }

    private static void roomForAnswersAgain() {
        Check.sentence("An IMAGE keeps .. ANSWERS (40 at most)");
        NamedWind x = answers(38);
        x.image();
        for (int times = 0; times < 3; times++) {
            for (int ship = 0; ship < 4; ship++) {
                x.call(ship, ship);
            }
            x.blow(3);
            Check.due("forty", x.count(5), 40);
            Check.due("the last one that is kept", x.guess(1), 23);
            Check.due("the first one that is not", x.guess(2), 31);
            x.restore();
            Check.due("thirty-eight again", x.count(5), 38);
            Check.due("nothing is known of 1", x.guess(1), 31);
        }
    }

    // ---- guess

    private static void guessOfNothing() {
        Check.sentence("all WINDS whose it could be: bits 0 to 3, bit 4: of none (no ANSWERS)");
        for (int name = 0; name < NAMES; name++) {
            Check.due("without a book", new NamedWind().guess(name), 31);
            Check.due("with one", Check.seaOf(BOOK).guess(name), 31);
        }
        NamedWind x = Check.seaWith(BOOK, SHIP, 4);
        for (int name = 0; name < NAMES; name++) {
            x.call(0, name);
            x.blow(CALM);
            Check.due("called in a calm", x.guess(name), 31);
        }
    }

    private static void guessOfWhatServed() {
        Check.sentence("a NAME is one of one WIND alone: the WIND by which it SERVED");
        for (int name = 0; name < 5; name++) {
            NamedWind x = Check.seaWith(BOOK, MASTER, 0, SHIP, 0);
            x.call(0, name);
            x.blow(WIND_OF[name]);
            Check.due("served once", x.guess(name), 1 << WIND_OF[name]);
            for (int wind = 0; wind <= CALM; wind++) {
                x.call(0, name);
                x.blow(wind);
                Check.due("that is for sure", x.guess(name), 1 << WIND_OF[name]);
            }
            for (int other = 0; other < NAMES; other++) {
                Check.due("of others nothing is told", x.guess(other), other == name ? 1 << WIND_OF[name] : 31);
            }
        }
    }

    private static void guessOfWhatTurned() {
        Check.sentence("all WINDS whose it could be (those that TURNED are out; of none is what is left at last)");
        for (int first = 0; first < 4; first++) {
            NamedWind x = Check.seaWith(BOOK, MASTER, 0);
            int left = 31;
            for (int i = 0; i < 4; i++) {
                int wind = (first + i) % 4;
                x.call(0, 5);
                x.blow(wind);
                left &= ~(1 << wind);
                Check.due("turned on by " + wind, x.guess(5), left);
                x.call(0, 5);
                x.blow(wind);
                Check.due("and once more", x.guess(5), left);
            }
            Check.due("of none", x.guess(5), 16);
        }
        for (int name = 0; name < 5; name++) {
            NamedWind x = Check.seaWith(BOOK, MASTER, 0);
            for (int wind = 0; wind < 4; wind++) {
                if (wind != WIND_OF[name]) {
                    x.call(0, name);
                    x.blow(wind);
                }
            }
            Check.due("its wind, or of none", x.guess(name), 16 | 1 << WIND_OF[name]);
        }
    }

    private static void guessWhateverTheBookSays() {
        Check.sentence("GUESS of a NAME, by ANSWERS alone, whatever THE BOOK says");
        NamedWind x = Check.seaWith("01:999/23:000/-:000/-:000", SHIP, 0, FAST, 0);
        x.call(0, 0);
        x.call(1, 1);
        x.blow(0);
        Check.due("wind 0 has two names, which are known", x.guess(0) + x.guess(1), 2);
        for (int name = 2; name < NAMES; name++) {
            Check.due("the others could be its, too", x.guess(name), 31);
        }
        x.call(0, 5);
        x.blow(3);
        Check.due("of a wind that never blows, but for this time", x.guess(5), 23);
        Check.write(x, "01:999/23:000/-:000/-:000");
        x.book();
        Check.due("answers are gone with the book", x.guess(0), 31);
    }

    // ---- wakes

    private static void begin(NamedWind x, int ship, int... places) {
        x.wake(ship, places[0]);
        for (int day = 1; day < places.length; day++) {
            x.then(places[day]);
        }
    }

    private static long ways(NamedWind x, int ship, int... places) {
        begin(x, ship, places);
        return x.called();
    }

    private static void wakeHowManyThereWere() {
        Check.sentence("how many DAYS of them there were (0 to 6)");
        NamedWind x = Check.seaWith(BOOK, SHIP, 4);
        Check.due("none was begun", x.wake(0, 4), 0);
        Check.due("begun, no days", x.wake(0, 4), 0);
        for (int days = 1; days <= 6; days++) {
            for (int i = 0; i < days; i++) {
                x.then(i);
            }
            Check.due("days", x.wake(0, 9), days);
            Check.due("then there are none", x.count(6), 0);
            Check.due("no days", x.wake(0, 0), 0);
        }
        for (int i = 0; i < 8; i++) {
            x.then(0);
        }
        Check.due("six at most", x.wake(0, 0), 6);
    }

    private static void wakeOthersAreGone() {
        Check.sentence("from a PLACE on (others are gone)");
        NamedWind x = Check.seaWith(BOOK, SHIP, 4, HEAVY, 4);
        begin(x, 0, 4, 9, 9, 9, 9, 9, 9);
        Check.due("no way", x.called(), 0);
        x.wake(0, 4);
        Check.due("its days are gone", x.called(), 1);
        Check.due("no day 0", x.by(0), UNKNOWN);
        Check.due("room for the first one", x.then(5), 1);
        x.wake(1, 4);
        x.then(5);
        Check.due("of another ship now", x.by(0), 6);
        Check.due("its own ways: five names, each by its wind, or none by two winds", x.called(), 7);
    }

    private static void wakeOfItsKind() {
        Check.sentence("a SHIP of its KIND could have left just this WAKE");
        NamedWind x = Check.seaWith(BOOK, SHIP, 0, FAST, 0, HEAVY, 0, PILOT, 0, MASTER, 9);
        int[] by = {2, 3, 1, 2, 2};
        for (int kind = 0; kind < KINDS; kind++) {
            for (int on = 1; on <= 4; on++) {
                int served = by[kind] == on ? 5 : 0;
                int drifted = on == 1 ? 2 : 0;
                Check.due("kind " + kind + ": " + on + " places on", ways(x, kind, 3, 3 + on), served + drifted);
            }
        }
    }

    /** What befalls the ship itself, or its place, is nothing to a wake. */
    private static void wakeStaysWithItsShip() {
        Check.sentence("a row of PLACES of a SHIP .. from a PLACE on (not its own)");
        NamedWind x = Check.seaWith(BOOK, SHIP, 9, HEAVY, 0);
        begin(x, 0, 4, 6);
        long before = x.called();
        x.call(1, 0);
        x.blow(0);
        x.moon();
        x.ship(FAST, 3);
        Check.due("days and moons", x.called(), before);
        Check.due("it goes on", x.then(5), 2);
        Check.due("who is home has a wake, too", before, 5);
    }

    private static void thenSixAtMost() {
        Check.sentence("one for each DAY (6 at most): how many DAYS; FULL");
        NamedWind x = Check.seaWith(BOOK, SHIP, 4);
        x.wake(0, 4);
        for (int day = 1; day <= 6; day++) {
            Check.due("day " + day, x.then(4), day);
            Check.due("counted", x.count(6), day);
        }
        for (int place = 0; place <= 9; place++) {
            Check.due("the seventh", x.then(place), FULL);
        }
        Check.due("still six", x.count(6), 6);
        Check.due("all in calms", x.called(), 117649);
    }

    private static void thenEveryPlace() {
        Check.sentence("Where it was in the end of the next DAY (PLACES 0 to 9)");
        for (int place = 0; place <= 9; place++) {
            NamedWind x = Check.seaWith(BOOK, SHIP, 4);
            Check.due("from it on", x.wake(0, place), 0);
            Check.due("to it", x.then(place), 1);
            Check.due("no place below", x.then(-1), UNKNOWN);
            Check.due("no place above", x.then(10), UNKNOWN);
            Check.due("one day", x.count(6), 1);
        }
        NamedWind x = Check.seaWith(BOOK, SHIP, 4);
        Check.due("no wake from -1", x.wake(0, -1), UNKNOWN);
        Check.due("no wake from 10", x.wake(0, 10), UNKNOWN);
        Check.due("so none was begun", x.then(0), STATE);
    }

    private static void calledOfNoDays() {
        Check.sentence("CALLED (1, if there are no DAYS)");
        for (int place = 0; place <= 9; place++) {
            for (int kind = 0; kind < KINDS; kind++) {
                NamedWind x = Check.seaWith(BOOK, kind, 4);
                x.wake(0, place);
                Check.due("kind " + kind + " from " + place, x.called(), 1);
                Check.due("no day to ask of", x.by(0), UNKNOWN);
            }
        }
    }

    private static void calledOfNoWays() {
        Check.sentence("in how many ways .. a SHIP of its KIND could have left just this WAKE (in none)");
        NamedWind x = Check.seaWith(BOOK, SHIP, 0, FAST, 0);
        Check.due("too far on", ways(x, 0, 3, 6), 0);
        Check.due("too far back", ways(x, 0, 5, 2), 0);
        Check.due("a fast two on", ways(x, 1, 3, 5), 0);
        Check.due("the first of six", ways(x, 0, 0, 9, 9, 9, 9, 9, 9), 0);
        Check.due("the last of six", ways(x, 0, 4, 4, 4, 4, 4, 4, 9), 0);
        x.then(4);
        Check.due("it stays so", x.called(), 0);
    }

    private static void calledByKind() {
        Check.sentence("TURNS: 2 PLACES back (a HEAVY 1; a PILOT, a MASTER 1), in a WAKE, too");
        NamedWind x = Check.seaWith(BOOK, SHIP, 0, FAST, 0, HEAVY, 0, PILOT, 0, MASTER, 9);
        // Names 0 to 4 are turned by three winds each, name 5 by all four; to drift back there are two winds.
        for (int kind = 0; kind < KINDS; kind++) {
            boolean far = kind == SHIP || kind == FAST;
            Check.due("kind " + kind + " one back", ways(x, kind, 5, 4), far ? 2 : 21);
            Check.due("kind " + kind + " two back", ways(x, kind, 5, 3), far ? 19 : 0);
        }
    }

    private static void calledBySomeSign() {
        Check.sentence("each DAY a WIND or CALM that can be by some SIGN");
        for (int wind = 0; wind < 4; wind++) {
            for (int sign = 0; sign < 3; sign++) {
                StringBuilder book = new StringBuilder("0:000/1:000/2:000/3:000");
                NamedWind none = Check.seaWith(book.toString(), SHIP, 4);
                Check.due("no tenth at all", ways(none, 0, 4, 6), 0);
                book.setCharAt(2 + sign + 6 * wind, '1');
                NamedWind x = Check.seaWith(book.toString(), SHIP, 4);
                Check.due("one tenth by one sign", ways(x, 0, 4, 6), 1);
                Check.due("its name", x.by(0), wind);
                Check.due("turned on by it", ways(x, 0, 4, 2), 5);
                Check.due("drifted on by it", ways(x, 0, 4, 5), wind < 2 ? 1 : 0);
                Check.due("drifted back by it", ways(x, 0, 4, 3), wind < 2 ? 0 : 1);
            }
        }
    }

    private static void calledInACalm() {
        Check.sentence("a WIND or CALM that can be (a CALM by one tenth of one SIGN, or not at all)");
        NamedWind never = Check.seaWith("0:555/1:555/-:000/-:000", SHIP, 4);
        Check.due("no calm", ways(never, 0, 4, 4), 0);
        Check.due("not called so", never.by(0), 6);
        for (int sign = 0; sign < 3; sign++) {
            StringBuilder book = new StringBuilder("0:555/1:555/-:000/-:000");
            book.setCharAt(2 + sign, '4');
            NamedWind x = Check.seaWith(book.toString(), SHIP, 4);
            Check.due("one tenth by sign " + sign, ways(x, 0, 4, 4), 7);
            Check.due("whatever was called", x.by(0), 6);
        }
        NamedWind only = Check.seaWith("0:000/1:000/-:000/-:000", SHIP, 4);
        Check.due("calms alone, for six days", ways(only, 0, 4, 4, 4, 4, 4, 4, 4), 117649);
        Check.due("one that moved", ways(only, 0, 4, 5), 0);
    }

    private static void calledOfWhoIsHome() {
        Check.sentence("who is HOME stays and calls nothing any more, in a WAKE, too");
        for (int kind = 0; kind < KINDS; kind++) {
            NamedWind x = Check.seaWith(BOOK, kind, 4);
            Check.due("by each wind or calm, calling none", ways(x, 0, 9, 9), 5);
            Check.due("none was called", x.by(0), NONE);
            for (int to = 0; to < 9; to++) {
                Check.due("it does not leave to " + to, ways(x, 0, 9, to), 0);
            }
            Check.due("six days", ways(x, 0, 9, 9, 9, 9, 9, 9, 9), 15625);
            Check.due("home by a name or by drift, then at home", ways(x, 0, 8, 9, 9), 7 * 5);
            Check.due("from day 1 on none", x.by(1), NONE);
        }
    }

    private static void calledAtTheEnds() {
        Check.sentence("Nobody comes below 0 or beyond 9, in a WAKE, too");
        NamedWind x = Check.seaWith(BOOK, SHIP, 4, FAST, 4, HEAVY, 4, PILOT, 4);
        // Below 0: turned on in 19 ways, drifted back in 2; in a calm 7 stay.
        Check.due("from 0 to 0", ways(x, 0, 0, 0), 28);
        Check.due("from 1 to 0", ways(x, 0, 1, 0), 21);
        Check.due("from 2 to 0", ways(x, 0, 2, 0), 19);
        Check.due("from 3 to 0", ways(x, 0, 3, 0), 0);
        Check.due("a pilot from 1", ways(x, 3, 1, 0), 21);
        Check.due("a pilot from 2", ways(x, 3, 2, 0), 0);
        // Beyond 9: served in 5 ways, drifted on in 2.
        Check.due("from 8 to 9", ways(x, 0, 8, 9), 7);
        Check.due("from 7 to 9", ways(x, 0, 7, 9), 5);
        Check.due("from 6 to 9", ways(x, 0, 6, 9), 0);
        Check.due("a fast from 7", ways(x, 1, 7, 9), 5);
        Check.due("a fast from 6", ways(x, 1, 6, 9), 5);
        Check.due("a fast from 5", ways(x, 1, 5, 9), 0);
        Check.due("a heavy from 7", ways(x, 2, 7, 9), 0);
    }

    private static void calledWhetherSpent() {
        Check.sentence("and a NAME, or none, whether SPENT or not");
        NamedWind x = Check.seaWith(BOOK, SHIP, 0, SHIP, 0, SHIP, 0, SHIP, 0, SHIP, 0, SHIP, 0);
        long before = ways(x, 0, 4, 6, 8, 9);
        for (int name = 0; name < NAMES; name++) {
            x.call(name, name);
            Check.due("with " + name + " spent", x.called(), before);
        }
        Check.due("five ways a day, and home by seven", before, 5 * 5 * 7);
        NamedWind one = Check.seaWith("0:900/-:000/-:000/-:000", SHIP, 4);
        Check.due("the same name on three days", ways(one, 0, 3, 5, 7, 9), 1);
        Check.due("on the last one, too", one.by(2), 0);
    }

    private static void byNoneOrAName() {
        Check.sentence("BY: the NAME called (NONE: none) in all these ways on a DAY");
        for (int name = 0; name < NAMES; name++) {
            for (int wind = 0; wind < 4; wind++) {
                StringBuilder book = new StringBuilder();
                for (int i = 0; i < 4; i++) {
                    book.append(i > 0 ? "/" : "").append(i == wind ? "" + name : "-").append(":222");
                }
                NamedWind x = Check.seaWith(book.toString(), SHIP, 4, FAST, 4);
                begin(x, 0, 4, 6, 5);
                Check.due("the only name", x.by(0), name);
                Check.due("drifted back: none", x.by(1), NONE);
                begin(x, 1, 4, 5, 8);
                Check.due("drifted on: none", x.by(0), NONE);
                Check.due("three on: the only name", x.by(1), name);
            }
        }
    }

    private static void byNotTheSame() {
        Check.sentence("6: it is not the same in all of them");
        NamedWind x = Check.seaWith("01:222/-:222/-:222/-:222", SHIP, 4, HEAVY, 4);
        begin(x, 0, 4, 6, 4, 4, 5);
        Check.due("two names of one wind", x.by(0), 6);
        Check.due("turned on: any name", x.by(1), 6);
        Check.due("a calm: any name or none", x.by(2), 6);
        Check.due("drifted: none", x.by(3), NONE);
        NamedWind one = Check.seaWith("0:222/-:222/-:222/-:222", HEAVY, 4, SHIP, 4);
        begin(one, 0, 4, 5);
        Check.due("a name or none", one.by(0), 6);
        begin(one, 1, 8, 9);
        Check.due("home by a name or none", one.by(0), 6);
        begin(one, 1, 7, 9);
        Check.due("home by the name", one.by(0), 0);
    }

    private static void byNoWays() {
        Check.sentence("6: .. or there are none");
        NamedWind x = Check.seaWith("0:222/-:222/-:222/-:222", SHIP, 4);
        begin(x, 0, 4, 6, 5, 4, 3);
        int[] can = {0, NONE, NONE, NONE};
        for (int day = 0; day < 4; day++) {
            Check.due("while it can be: day " + day, x.by(day), can[day]);
        }
        x.then(9);
        for (int day = 0; day < 5; day++) {
            Check.due("when it can't: day " + day, x.by(day), 6);
        }
        Check.due("no ways", x.called(), 0);
    }

    private static void byEachDay() {
        Check.sentence("UNKNOWN: day (from 0)");
        NamedWind x = Check.seaWith("0:222/-:222/-:222/-:222", SHIP, 4);
        x.wake(0, 0);
        for (int days = 0; days <= 6; days++) {
            for (int day = -1; day <= 7; day++) {
                Check.due("of " + days + " days: " + day, x.by(day), day < 0 || day >= days ? UNKNOWN : NONE);
            }
            x.then(days + 1);
        }
    }

    // ---- years

    private static int next(int seed) {
        return (int) Math.floorMod(1103515245L * seed + 12345L, 1L << 31);
    }

    private static int draw(int seed, int of) {
        return seed / 65536 % of;
    }

    private static void yearsOneToSixty() {
        Check.sentence("days (1 to 60)");
        NamedWind x = Check.seaOf(BOOK);
        int seed = 5;
        for (int days = 1; days <= 60; days++) {
            seed = next(next(seed));
            Check.due("the seed behind " + days, x.years(days, 5, 3), seed);
        }
        Check.due("no day", x.years(0, 5, 3), OUTSIDE);
        Check.due("sixty-one", x.years(61, 5, 3), OUTSIDE);
    }

    private static void yearsSeeds() {
        Check.sentence("seed (0 at least); DRAWS: .. its rest by 2 to the 31");
        NamedWind x = Check.seaOf(BOOK);
        int[] seeds = {0, 1, 2, 65535, 65536, 1 << 30, Integer.MAX_VALUE - 1, Integer.MAX_VALUE};
        for (int seed : seeds) {
            Check.due("from " + seed, x.years(1, seed, 3), next(next(seed)));
            Check.holds("0 at least", x.years(60, seed, 3) >= 0);
        }
        Check.due("from 0, by hand", x.years(1, 0, 3), (1103515245L * 12345 + 12345) % (1L << 31));
        Check.due("below 0", x.years(1, -1, 3), OUTSIDE);
        Check.due("far below 0", x.years(1, Integer.MIN_VALUE, 3), OUTSIDE);
    }

    /** By one sign alone wind 0 blows; at a seed whose last draw is below 9 it tells the sign. */
    private static void yearsDrawOfThree() {
        Check.sentence("the SIGN by a DRAW of 3");
        int[] drawn = new int[3];
        for (int seed = 0; seed < 300; seed++) {
            int sign = draw(next(seed), 3);
            int name = draw(next(next(seed)), 7);
            if (draw(next(next(next(seed))), 10) < 9) {
                drawn[sign]++;
                for (int windy = 0; windy < 3; windy++) {
                    StringBuilder book = new StringBuilder("-:000/-:000/-:000/-:000");
                    book.setCharAt(2 + windy, '9');
                    int moved = name == 6 ? 5 : 2;
                    Check.due("seed " + seed, Check.seaWith(book.toString(), SHIP, 4).years(1, seed, 1), windy == sign ? moved : 4);
                }
            }
        }
        for (int sign = 0; sign < 3; sign++) {
            Check.holds("sign " + sign + " was drawn", drawn[sign] > 0);
        }
    }

    private static void yearsDrawOfSeven() {
        Check.sentence("by a DRAW of 7 calls the NAME (6 .. none)");
        int[] drawn = new int[7];
        for (int seed = 0; seed < 300; seed++) {
            int name = draw(next(next(seed)), 7);
            drawn[name]++;
            NamedWind x = Check.seaWith(BOOK, SHIP, 4);
            Check.due("seed " + seed + ": spent", x.years(1, seed, 2), name == 6 ? 0 : 1);
            if (name < 6) {
                x = Check.seaWith(BOOK, SHIP, 4, SHIP, 9);
                x.call(0, name);
                Check.due("seed " + seed + ": the same one is spent now", x.years(1, seed, 2), 1);
                x.call(0, (name + 1) % 6);
                Check.due("seed " + seed + ": another one is", x.years(1, seed, 2), 2);
            }
        }
        for (int name = 0; name < 7; name++) {
            Check.holds(name + " was drawn", drawn[name] > 0);
        }
    }

    private static void yearsDrawOfTen() {
        Check.sentence("by a DRAW of 10 the first WIND blows by which TENTHS, added up, are above it; else a CALM");
        int[] drawn = new int[10];
        for (int seed = 0; seed < 300; seed++) {
            int last = draw(next(next(next(seed))), 10);
            int name = draw(next(next(seed)), 7);
            drawn[last]++;
            for (int tenths = 0; tenths <= 9; tenths++) {
                String own = ":" + tenths + tenths + tenths;
                String most = "/-:" + (10 - tenths) + (10 - tenths) + (10 - tenths);
                NamedWind calms = Check.seaWith("-" + own + "/-:000/-:000/-:000", SHIP, 4);
                boolean blows = tenths > last;
                int moved = name == 6 ? 5 : 2;
                Check.due("or a calm: seed " + seed, calms.years(1, seed, 1), blows ? moved : 4);
                NamedWind second = Check.seaWith("-:000/-:000/-" + own + "/-:000", SHIP, 4);
                Check.due("wind 2: seed " + seed, second.years(1, seed, 1), blows ? name == 6 ? 3 : 2 : 4);
                if (tenths > 0) {
                    NamedWind other = Check.seaWith("-" + own + "/-:000/-:000" + most, SHIP, 4);
                    int back = name == 6 ? 3 : 2;
                    Check.due("or wind 3: seed " + seed, other.years(1, seed, 1), blows ? moved : back);
                }
            }
        }
        for (int last = 0; last < 10; last++) {
            Check.holds(last + " was drawn", drawn[last] > 0);
        }
    }

    private static void yearsWhoIsHomeDrawsNothing() {
        Check.sentence("each SHIP (.. that is not HOME) by a DRAW of 7");
        for (int seed = 0; seed < 40; seed++) {
            int two = next(next(seed));
            int three = next(two);
            Check.due("home", Check.seaWith(BOOK, SHIP, 9).years(1, seed, 3), two);
            Check.due("all six home", Check.seaWith(BOOK, 0, 9, 1, 9, 2, 9, 3, 9, 4, 9, 0, 9).years(1, seed, 3), two);
            Check.due("not home", Check.seaWith(BOOK, SHIP, 8).years(1, seed, 3), three);
            Check.due("one of two", Check.seaWith(BOOK, SHIP, 9, SHIP, 0).years(1, seed, 3), three);
            NamedWind x = Check.seaWith("-:555/-:555/-:000/-:000", SHIP, 8);
            boolean home = draw(two, 7) == 6;
            Check.due("home behind the first day", x.years(1, seed, 0), home ? 1 : 0);
            Check.due("on the second day it draws nothing", x.years(2, seed, 3), home ? next(next(three)) : next(next(next(three))));
        }
    }

    private static void yearsByNumber() {
        Check.sentence("each SHIP (by number ..): what is SPENT now, by what is called today, too");
        int same = 0;
        for (int seed = 0; seed < 400; seed++) {
            int first = draw(next(next(seed)), 7);
            int second = draw(next(next(next(seed))), 7);
            NamedWind x = Check.seaWith("-:555/-:555/-:000/-:000", SHIP, 4, HEAVY, 4);
            int spent = (first < 6 ? 1 : 0) + (second < 6 && second != first ? 1 : 0);
            int places = (first < 6 ? 2 : 5) + (second < 6 && second != first ? 3 : 5);
            Check.due("seed " + seed + ": spent", x.years(1, seed, 2), spent);
            Check.due("seed " + seed + ": who calls what is spent calls none", x.years(1, seed, 1), places);
            same += first == second && first < 6 ? 1 : 0;
        }
        Check.holds("two drew the same name", same > 0);
    }

    private static void yearsSpentStays() {
        Check.sentence("what is SPENT now .. stays so");
        NamedWind x = Check.seaWith(BOOK, SHIP, 0, SHIP, 0, SHIP, 0);
        x.call(0, 0);
        x.call(1, 3);
        x.call(2, 5);
        x.blow(CALM);
        int before = 3;
        for (int days = 1; days <= 60; days++) {
            int spent = x.years(days, 99, 2);
            Check.holds("never fewer", spent >= before && spent <= 6);
            before = spent;
        }
        Check.due("by and by all", before, 6);
        NamedWind freed = Check.seaWith(BOOK, SHIP, 8);
        freed.call(0, 2);
        freed.blow(CALM);
        Check.due("one, and that which is drawn on the first day", freed.years(1, 1, 2), 2);
        freed.moon();
        Check.due("behind the moon just that", freed.years(1, 1, 2), 1);
    }

    private static void yearsCalledToday() {
        Check.sentence("what is SPENT now, by what is called today, too (but it serves nobody)");
        NamedWind x = Check.seaWith("0:999/-:111/-:000/-:000", SHIP, 4, SHIP, 9);
        for (int seed = 0; seed < 100; seed++) {
            if (draw(next(next(seed)), 7) == 6) {
                int drifted = x.years(1, seed, 1);
                x.call(0, 0);
                Check.due("it draws none, and drifts", x.years(1, seed, 1), drifted);
                Check.due("spent all the same", x.years(1, seed, 2), 1);
                x.call(0, NONE);
                Check.due("taken back", x.years(1, seed, 2), 0);
            }
        }
        Check.due("to 5, and 9", x.years(1, 0, 1), 14);
    }

    private static void yearsMasters() {
        Check.sentence("a MASTER does not spend it, in YEARS, too");
        NamedWind x = Check.seaWith(BOOK, MASTER, 4, MASTER, 0);
        for (int days = 1; days <= 60; days++) {
            Check.due("masters alone", x.years(days, 7, 2), 0);
        }
        int both = 0;
        for (int seed = 0; seed < 200; seed++) {
            int first = draw(next(next(seed)), 7);
            int second = draw(next(next(next(seed))), 7);
            NamedWind two = Check.seaWith("-:555/-:555/-:000/-:000", MASTER, 4, SHIP, 4);
            Check.due("seed " + seed, two.years(1, seed, 2), second < 6 ? 1 : 0);
            Check.due("places", two.years(1, seed, 1), (first < 6 ? 3 : 5) + (second < 6 ? 2 : 5));
            both += first == second && first < 6 ? 1 : 0;
        }
        Check.holds("both drew the same name", both > 0);
    }

    private static void yearsTellAndStay() {
        Check.sentence("YEARS by a SEED, as they would be: what = 0 how many are HOME then, 1 the PLACES of all together");
        NamedWind x = Check.seaWith(BOOK, 0, 9, 1, 9, 2, 9, 3, 9, 4, 9, 0, 9);
        Check.due("all six", x.years(60, 3, 0), 6);
        Check.due("at nine each", x.years(60, 3, 1), 54);
        NamedWind none = Check.seaOf(BOOK);
        Check.due("nobody", none.years(60, 3, 0), 0);
        Check.due("no places", none.years(60, 3, 1), 0);
        Check.due("no names", none.years(60, 3, 2), 0);
        NamedWind full = Twins.full();
        long before = full.digest();
        for (int seed = 0; seed < 20; seed++) {
            for (int what = 0; what < 4; what++) {
                full.years(60, seed, what);
            }
        }
        Check.due("nothing changes", full.digest(), before);
        Check.due("today's call stays", full.about(0, 2), 1);
        full.restore();
        full.years(60, 3, 0);
        Check.due("the image is as it was kept", full.count(4), 0);
    }

    // ---- images

    private static void imageWithoutABook() {
        Check.sentence("image: STATE: no BOOK; restore: STATE: none was kept");
        NamedWind x = new NamedWind();
        Check.due("image", x.image(), STATE);
        Check.due("restore", x.restore(), STATE);
        Check.write(x, BOOK);
        x.book();
        Check.due("the refused one kept nothing", x.restore(), STATE);
        Check.due("now one is kept", x.image(), 0);
        Check.due("restored", x.restore(), 0);
    }

    private static void imageOfNothing() {
        Check.sentence("how many SHIPS (0 to 6)");
        NamedWind x = Check.seaOf(BOOK);
        for (int ships = 0; ships <= 6; ships++) {
            Check.due("kept", x.image(), ships);
            Check.due("restored", x.restore(), ships);
            Check.due("again", x.restore(), ships);
            x.ship(0, ships);
        }
    }

    private static void imageTheLatest() {
        Check.sentence("An IMAGE is kept (one; the latest)");
        NamedWind x = Check.seaWith(BOOK, SHIP, 1);
        for (int i = 0; i < 5; i++) {
            x.image();
            x.blow(0);
        }
        x.restore();
        Check.due("the latest", x.about(0, 1), 5);
        x.restore();
        Check.due("no earlier one", x.about(0, 1), 5);
        x.blow(0);
        x.image();
        x.blow(0);
        x.restore();
        Check.due("one behind a restore", x.about(0, 1), 6);
    }

    private static void imageKeepsPlaces() {
        Check.sentence("An IMAGE keeps .. their PLACES");
        NamedWind x = Check.seaWith(BOOK, SHIP, 0, FAST, 8, HEAVY, 9, PILOT, 1, MASTER, 5, SHIP, 7);
        x.image();
        int[] places = {0, 8, 9, 1, 5, 7};
        for (int wind = 0; wind < 4; wind++) {
            x.blow(wind);
            x.blow(wind);
            x.restore();
            for (int ship = 0; ship < 6; ship++) {
                Check.due("ship " + ship, x.about(ship, 1), places[ship]);
                Check.due("its kind", x.about(ship, 0), ship % 5);
            }
            Check.due("who is home", x.count(2), 1);
        }
        x.blow(0);
        x.blow(0);
        x.restore();
        Check.due("who came home since is not home, and calls", x.call(1, 0), NONE);
    }

    private static void imageKeepsHowOften() {
        Check.sentence("An IMAGE keeps .. how often each was SERVED, TURNED on");
        NamedWind x = Check.seaWith(BOOK, MASTER, 0, MASTER, 0);
        x.call(0, 0);
        x.call(1, 1);
        x.blow(0);
        x.image();
        for (int day = 0; day < 3; day++) {
            x.call(0, 1);
            x.call(1, 0);
            x.blow(0);
        }
        Check.due("three more", x.about(0, 4), 3);
        Check.due("served since", x.about(1, 3), 3);
        x.restore();
        int[] want = {1, 0, 0, 1};
        for (int i = 0; i < 4; i++) {
            Check.due("ship " + i / 2 + ": " + (3 + i % 2), x.about(i / 2, 3 + i % 2), want[i]);
        }
    }

    private static void imageKeepsWhatIsSpent() {
        Check.sentence("An IMAGE keeps .. what is SPENT");
        NamedWind x = Check.seaWith(BOOK, SHIP, 4, SHIP, 4);
        x.image();
        x.call(0, 0);
        x.blow(CALM);
        x.restore();
        Check.due("spent since", x.count(3), 0);
        x.call(0, 5);
        x.blow(CALM);
        x.call(1, 0);
        x.image();
        x.moon();
        x.restore();
        Check.due("freed since", x.count(3), 2);
        Check.due("by a day before", x.call(1, 5), STATE);
        Check.due("by the day itself", x.call(1, 0), STATE);
        Check.due("who called it calls nothing yet", x.call(1, 1), NONE);
        x.call(1, NONE);
        Check.due("so it is not freed by a change", x.spent(0), 1);
        Check.due("the moon frees all", x.moon(), 2);
    }

    private static void imageKeepsDays() {
        Check.sentence("An IMAGE keeps .. DAYS");
        NamedWind x = Check.seaOf(BOOK);
        x.image();
        x.blow(0);
        x.restore();
        Check.due("none", x.count(4), 0);
        for (int day = 0; day < 7; day++) {
            x.blow(CALM);
        }
        x.image();
        x.blow(0);
        x.restore();
        Check.due("seven", x.count(4), 7);
        x.blow(0);
        Check.due("it goes on", x.count(4), 8);
    }

    private static void imageKeepsAnswers() {
        Check.sentence("An IMAGE keeps .. ANSWERS");
        NamedWind x = Check.seaWith(BOOK, MASTER, 0, MASTER, 0);
        x.call(0, 5);
        x.blow(0);
        x.image();
        x.call(0, 5);
        x.call(1, 3);
        x.blow(3);
        Check.due("three answers", x.count(5), 3);
        x.restore();
        Check.due("one of them is kept", x.count(5), 1);
        Check.due("it tells of 5", x.guess(5), 30);
        Check.due("nothing of 3", x.guess(3), 31);
    }

    private static void imageGoneShips() {
        Check.sentence("those that come since are gone by restore()");
        NamedWind x = Check.seaWith(BOOK, SHIP, 4);
        x.image();
        x.ship(MASTER, 9);
        x.ship(FAST, 8);
        x.call(2, 0);
        x.blow(0);
        Check.due("one is left", x.restore(), 1);
        Check.due("home", x.count(2), 0);
        for (int ship = 1; ship < 6; ship++) {
            Check.due("about " + ship, x.about(ship, 0), UNKNOWN);
            Check.due("call " + ship, x.call(ship, 0), UNKNOWN);
            Check.due("race " + ship, x.race(0, ship, 1, 0), UNKNOWN);
            Check.due("wake " + ship, x.wake(ship, 0), UNKNOWN);
        }
        Check.due("what they spent is free", x.spent(0), 0);
        Check.due("the next one is another one", x.ship(HEAVY, 2), 1);
        int[] want = {HEAVY, 2, NONE, 0, 0};
        for (int what = 0; what < 5; what++) {
            Check.due("about it: " + what, x.about(1, what), want[what]);
        }
    }

    private static void restoreNobodyCalls() {
        Check.sentence("It goes on from the IMAGE (nobody calls yet ..)");
        NamedWind x = Check.seaWith(BOOK, SHIP, 4, MASTER, 4);
        x.call(0, 0);
        x.call(1, 1);
        x.image();
        Check.due("image() itself leaves the calls", x.about(0, 2), 0);
        x.restore();
        Check.due("the ship", x.about(0, 2), NONE);
        Check.due("the master", x.about(1, 2), NONE);
        x.blow(0);
        Check.due("so it drifts", x.about(0, 1), 5);
        Check.due("no answers", x.count(5), 0);
        x.restore();
        x.call(0, 2);
        x.restore();
        Check.due("nor what is called since", x.about(0, 2), NONE);
    }

    private static void restoreNoWake() {
        Check.sentence("It goes on from the IMAGE (.. no WAKE was begun)");
        NamedWind x = Check.seaWith(BOOK, SHIP, 4);
        begin(x, 0, 4, 5, 6);
        x.image();
        Check.due("image() leaves the wake", x.count(6), 2);
        Check.due("it goes on", x.then(7), 3);
        x.restore();
        Check.due("days of wakes", x.count(6), 0);
        Check.due("then", x.then(5), STATE);
        Check.due("called", x.called(), STATE);
        Check.due("by", x.by(0), STATE);
        Check.due("there were none", x.wake(0, 4), 0);
        Check.due("one is begun", x.called(), 1);
    }

    private static void restoreLeavesThePage() {
        Check.sentence("An IMAGE keeps .. (neither THE PAGE nor how often a BOOK was read)");
        NamedWind x = Check.seaOf(BOOK);
        Check.write(x, "0:4");
        x.image();
        Check.write(x, "32/");
        x.restore();
        Check.due("letters", x.count(7), 6);
        Check.due("blank", x.blank(), 6);
        x.restore();
        Check.due("they don't come back", x.count(7), 0);
        Check.due("books", x.count(8), 1);
    }

    private static void restoreBehindABook() {
        Check.sentence("or a BOOK was read since (of the same text, too)");
        for (String text : new String[] {BOOK, "-:000/-:000/-:000/-:000"}) {
            NamedWind x = Check.seaWith(BOOK, SHIP, 4);
            x.image();
            Check.write(x, "-:000/");
            Check.due("a page that is none", x.book(), STATE);
            Check.due("refused, it changes nothing", x.restore(), 1);
            x.blank();
            Check.write(x, text);
            Check.due("a page alone", x.restore(), 1);
            x.book();
            Check.due("a book", x.restore(), STATE);
            x.ship(0, 3);
            Check.due("once more", x.restore(), STATE);
            Check.due("the ship stays", x.count(1), 1);
            Check.due("another image", x.image(), 1);
            Check.due("is good", x.restore(), 1);
        }
    }

    // ---- counts, digests, and how long an object is used

    private static void countsFromNoneToAll() {
        Check.sentence("How many: 0 NAMES .. 8 how often a BOOK was read (none, and as many as can be)");
        NamedWind x = new NamedWind();
        for (int what = 0; what <= 8; what++) {
            Check.due("none: " + what, x.count(what), 0);
        }
        Check.due("below", x.count(-1), OUTSIDE);
        Check.due("above", x.count(9), OUTSIDE);
        NamedWind full = Twins.full();
        int[] want = {4, 6, 1, 2, 10, 40, 6, 30, 1};
        for (int what = 0; what <= 8; what++) {
            Check.due("of a full one: " + what, full.count(what), want[what]);
        }
        NamedWind all = Check.seaWith("01:111/23:111/45:111/-:111", 0, 8, 0, 8, 0, 8, 0, 8, 0, 8, 0, 8);
        for (int ship = 0; ship < 6; ship++) {
            all.call(ship, ship);
        }
        Check.due("six names", all.count(0), 6);
        Check.due("six ships", all.count(1), 6);
        Check.due("six spent", all.count(3), 6);
        all.blow(CALM);
        all.blow(0);
        Check.due("six home", all.count(2), 6);
    }

    private static long mix(long h, long number) {
        return 31 * h + number;
    }

    /** What a digest is due to be, told by the other calls. */
    private static long due(NamedWind x, boolean wake, String page) {
        long h = 661;
        for (int i = 0; x.count(8) > 0 && i < 15; i++) {
            h = mix(h, x.tenths(i / 3, i % 3));
        }
        for (int name = 0; x.count(8) > 0 && name < NAMES; name++) {
            h = mix(h, x.windOf(name));
        }
        h = x.count(8) > 0 ? mix(h, x.tells()) : h;
        for (int name = 0; name < NAMES; name++) {
            h = mix(mix(h, x.spent(name)), x.guess(name));
        }
        for (int ship = 0; ship < x.count(1); ship++) {
            for (int what = 0; what < 5; what++) {
                h = mix(h, x.about(ship, what));
            }
            h = mix(mix(h, x.likely(ship, 2, 0)), x.likely(ship, 2, 1));
        }
        h = wake ? mix(h, x.called()) : h;
        for (int i = 0; i < page.length(); i++) {
            h = mix(h, page.charAt(i));
        }
        for (int what = 0; what < 9; what++) {
            h = mix(h, x.count(what));
        }
        return h;
    }

    private static void digestOfEverySea() {
        Check.sentence("with a BOOK .., with a WAKE CALLED (and without)");
        NamedWind x = new NamedWind();
        Check.due("of nothing", x.digest(), due(x, false, ""));
        x.letters(1 | 126 << 8);
        Check.due("without a book, with a page", x.digest(), due(x, false, "\u0001~"));
        x.blank();
        Check.write(x, BOOK);
        Check.due("a page that is not read", x.digest(), due(x, false, BOOK));
        x.book();
        Check.due("a book, no ships", x.digest(), due(x, false, ""));
        x.ship(MASTER, 9);
        x.ship(SHIP, 0);
        x.ship(FAST, 6);
        Check.due("with ships", x.digest(), due(x, false, ""));
        x.call(1, 3);
        x.call(2, 5);
        Check.due("with calls", x.digest(), due(x, false, ""));
        x.wake(1, 4);
        Check.due("a wake of no days", x.digest(), due(x, true, ""));
        x.then(9);
        Check.due("a wake of no ways", x.digest(), due(x, true, ""));
        x.image();
        x.blow(0);
        Check.due("behind a day", x.digest(), due(x, true, ""));
        x.restore();
        Check.due("restored: no wake", x.digest(), due(x, false, ""));
        Check.write(x, "-:000/-:000/-:000/-:000");
        x.book();
        Check.due("another book", x.digest(), due(x, false, ""));
        NamedWind full = Twins.full();
        Check.due("of a full one", full.digest(), due(full, true, "01:903/2:053/-:053/3:101......"));
    }

    /** By hand, with numbers of any length: the rest by 2 to the 64, taken as a long. */
    private static void digestWraps() {
        Check.sentence("31 times h, and it (as longs, wrapping)");
        java.math.BigInteger h = java.math.BigInteger.valueOf(661);
        int[] numbers = {0, 31, 0, 31, 0, 31, 0, 31, 0, 31, 0, 31, 126, 1, 0, 0, 0, 0, 0, 0, 0, 2, 0};
        for (int number : numbers) {
            h = h.multiply(java.math.BigInteger.valueOf(31)).add(java.math.BigInteger.valueOf(number));
        }
        NamedWind x = new NamedWind();
        x.letters(126 | 1 << 8);
        Check.holds("it is longer than a long", h.bitLength() > 64);
        Check.due("wrapped", x.digest(), h.longValue());
    }

    /** The constructor, and 512 calls behind it. */
    private static void lastCalls() {
        Check.sentence("An object is used for at most 512 calls after it has been made");
        NamedWind days = new NamedWind();
        Check.write(days, BOOK);
        days.book();
        for (int day = 0; day < 506; day++) {
            Check.due("nobody is home", days.blow(day % 5), 0);
        }
        Check.due("the 511th", days.count(4), 506);
        Check.due("the 512th", days.count(8), 1);
        NamedWind books = new NamedWind();
        for (int read = 1; read <= 128; read++) {
            Check.write(books, "-:000/-:000/-:000/-:000");
            Check.due("read " + read, books.book(), 0);
        }
        NamedWind years = new NamedWind();
        Check.write(years, BOOK);
        years.book();
        years.ship(MASTER, 0);
        int first = years.years(60, 1, 1);
        for (int times = 0; times < 505; times++) {
            Check.due("always the same", years.years(60, 1, 1), first);
        }
    }
}
