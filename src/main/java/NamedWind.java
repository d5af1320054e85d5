import java.util.Arrays;

/** A sea whose winds serve who calls them by name; ../shared/DOC.md says what each call answers. */
public final class NamedWind {
    public static final int NONE = -1, UNKNOWN = -101, OUTSIDE = -102, STATE = -103, FULL = -104;

    private static final int WINDS = 4, CALM = 4, NAMES = 6, SIGNS = 3, HOME = 9, TEN = 10;
    private static final int KINDS = 5, SHIP = 0, PILOT = 3, MASTER = 4;
    private static final int MOST_LETTERS = 30, MOST_SHIPS = 6, MOST_ANSWERS = 40;
    private static final int MOST_WAKE_DAYS = 6, MOST_LIKELY_DAYS = 4, MOST_RACE_DAYS = 6, MOST_YEARS_DAYS = 60;
    private static final int ABOUTS = 5, YEARS_TELLS = 4, COUNTS = 9;
    private static final int NAME_SETS = 1 << NAMES, ALL_NAMES = NAME_SETS - 1;
    private static final int NOT_THE_SAME = 6;
    private static final int DIGEST_DAYS = 2;

    /** By kind: how far on a wind brings who called it, and how far back who miscalled it. */
    private static final int[] SERVED_BY = {2, 3, 1, 2, 2};
    private static final int[] TURNED_BY = {2, 2, 1, 1, 1};

    /** What is sure on so many days: ten tenths of each of three signs a day. */
    private static final int[] SURE_OF = {1, 30, 900, 27000, 810000, 24300000, 729000000};

    private final Page page = new Page();
    private final Reader reader = new Reader();
    private final Sea sea = new Sea();
    private final Sea kept = new Sea();
    private final Sea dream = new Sea();
    private final Wake trail = new Wake();
    private final Forecast forecast = new Forecast();
    /** The book that counts and the one that a page is tried on: they change places when it is read. */
    private Book current = new Book();
    private Book draft = new Book();
    private int booksRead;
    private boolean imageKept;

    public NamedWind() {
    }

    // ---- the book

    public int letters(long w) {
        return page.add(w);
    }

    public int blank() {
        return page.empty();
    }

    public int fault() {
        return reader.read(page, draft);
    }

    public int book() {
        if (reader.read(page, draft) < page.length || !reader.atEnd()) {
            return STATE;
        }
        Book old = current;
        current = draft;
        draft = old;
        booksRead++;
        page.empty();
        sea.clear();
        trail.end();
        imageKept = false;
        return current.nameCount();
    }

    public int tenths(int wind, int sign) {
        if (!isWindOrCalm(wind) || !isSign(sign)) {
            return UNKNOWN;
        }
        return hasBook() ? current.strength[wind][sign] : STATE;
    }

    public int windOf(int name) {
        if (!isName(name)) {
            return UNKNOWN;
        }
        return hasBook() ? current.owner[name] : STATE;
    }

    // ---- ships

    public int ship(int kind, int place) {
        if (!isPlace(place)) {
            return UNKNOWN;
        }
        if (!isKind(kind)) {
            return OUTSIDE;
        }
        if (!hasBook()) {
            return STATE;
        }
        return sea.add(kind, place);
    }

    public int about(int ship, int what) {
        if (!isShip(ship)) {
            return UNKNOWN;
        }
        return what >= 0 && what < ABOUTS ? sea.fleet[ship].tell(what) : OUTSIDE;
    }

    public int as(int ship, int kind) {
        if (!isShip(ship)) {
            return UNKNOWN;
        }
        if (!isKind(kind)) {
            return OUTSIDE;
        }
        return sea.fleet[ship].isA(kind) ? ship : NONE;
    }

    public int call(int ship, int name) {
        if (!isShip(ship) || (name != NONE && !isName(name))) {
            return UNKNOWN;
        }
        if (sea.fleet[ship].place == HOME || (name != NONE && sea.isSpent(name))) {
            return STATE;
        }
        return sea.replaceCall(ship, name);
    }

    public int spent(int name) {
        if (!isName(name)) {
            return UNKNOWN;
        }
        return sea.isSpent(name) ? 1 : 0;
    }

    public int blow(int wind) {
        if (!isWindOrCalm(wind)) {
            return UNKNOWN;
        }
        if (!hasBook()) {
            return STATE;
        }
        sea.passDay(current, wind);
        return sea.homeCount();
    }

    public int moon() {
        int were = sea.spentCount();
        sea.spentNames = 0;
        return were;
    }

    // ---- what to call

    public long likely(int ship, int days, int part) {
        if (!isShip(ship)) {
            return UNKNOWN;
        }
        if (days < 1 || days > MOST_LIKELY_DAYS || !isPart(part)) {
            return OUTSIDE;
        }
        Ship it = sea.fleet[ship];
        forecast.begin(current, it.kind, days);
        return inLowestTerms(forecast.chances(days, it.place, sea.freeNames()), SURE_OF[days], part);
    }

    public int what(int ship, int sign, int days) {
        if (!isShip(ship) || !isSign(sign)) {
            return UNKNOWN;
        }
        if (days < 1 || days > MOST_LIKELY_DAYS) {
            return OUTSIDE;
        }
        Ship it = sea.fleet[ship];
        forecast.begin(current, it.kind, days);
        return forecast.bestCall(sign, days, it.place, sea.freeNames());
    }

    public int sure(int ship) {
        if (!isShip(ship)) {
            return UNKNOWN;
        }
        Ship it = sea.fleet[ship];
        forecast.begin(current, it.kind, MOST_LIKELY_DAYS);
        // What never blows has no chances, so all of them bring it home just if it is home for sure.
        for (int days = 0; days <= MOST_LIKELY_DAYS; days++) {
            if (forecast.chances(days, it.place, sea.freeNames()) == SURE_OF[days]) {
                return days;
            }
        }
        return NONE;
    }

    public int tells() {
        return hasBook() ? current.tellingSign() : STATE;
    }

    public long race(int a, int b, int days, int part) {
        if (!isShip(a) || !isShip(b) || a == b) {
            return UNKNOWN;
        }
        if (days < 1 || days > MOST_RACE_DAYS || !isPart(part)) {
            return OUTSIDE;
        }
        int wins = raceChances(current, days, sea.fleet[a].place, sea.fleet[b].place);
        return inLowestTerms(wins, SURE_OF[days], part);
    }

    // ---- told back

    public int guess(int name) {
        return isName(name) ? sea.couldBe[name] : UNKNOWN;
    }

    public int wake(int ship, int place) {
        if (!isShip(ship) || !isPlace(place)) {
            return UNKNOWN;
        }
        int were = trail.days;
        trail.begin(sea.fleet[ship].kind, place);
        return were;
    }

    public int then(int place) {
        if (!trail.begun) {
            return STATE;
        }
        return isPlace(place) ? trail.add(place) : UNKNOWN;
    }

    public int called() {
        return trail.begun ? trail.ways(current) : STATE;
    }

    public int by(int day) {
        if (!trail.begun) {
            return STATE;
        }
        return day >= 0 && day < trail.days ? trail.callOn(current, day) : UNKNOWN;
    }

    public int years(int days, int seed, int what) {
        if (days < 1 || days > MOST_YEARS_DAYS || seed < 0 || what < 0 || what >= YEARS_TELLS) {
            return OUTSIDE;
        }
        if (!hasBook()) {
            return STATE;
        }
        dream.copyFrom(sea);
        int seedThen = dream.passYears(current, days, seed);
        switch (what) {
            case 0: return dream.homeCount();
            case 1: return dream.placesTogether();
            case 2: return dream.spentCount();
            default: return seedThen;
        }
    }

    // ---- what is told of all

    public int image() {
        if (!hasBook()) {
            return STATE;
        }
        kept.copyFrom(sea);
        imageKept = true;
        return sea.ships;
    }

    public int restore() {
        if (!imageKept) {
            return STATE;
        }
        sea.copyFrom(kept);
        trail.end();
        return sea.ships;
    }

    public int count(int what) {
        switch (what) {
            case 0: return current.nameCount();
            case 1: return sea.ships;
            case 2: return sea.homeCount();
            case 3: return sea.spentCount();
            case 4: return sea.days;
            case 5: return sea.answers;
            case 6: return trail.days;
            case 7: return page.length;
            case 8: return booksRead;
            default: return OUTSIDE;
        }
    }

    public long digest() {
        long h = 661;
        if (hasBook()) {
            h = mixBook(h);
        }
        for (int name = 0; name < NAMES; name++) {
            h = mix(mix(h, spent(name)), guess(name));
        }
        for (int ship = 0; ship < sea.ships; ship++) {
            h = mixShip(h, ship);
        }
        if (trail.begun) {
            h = mix(h, called());
        }
        for (int i = 0; i < page.length; i++) {
            h = mix(h, page.codes[i]);
        }
        for (int what = 0; what < COUNTS; what++) {
            h = mix(h, count(what));
        }
        return h;
    }

    private long mixBook(long start) {
        long h = start;
        for (int wind = 0; wind <= CALM; wind++) {
            for (int sign = 0; sign < SIGNS; sign++) {
                h = mix(h, current.strength[wind][sign]);
            }
        }
        for (int name = 0; name < NAMES; name++) {
            h = mix(h, current.owner[name]);
        }
        return mix(h, current.tellingSign());
    }

    private long mixShip(long start, int ship) {
        long h = start;
        for (int what = 0; what < ABOUTS; what++) {
            h = mix(h, about(ship, what));
        }
        h = mix(h, likely(ship, DIGEST_DAYS, 0));
        return mix(h, likely(ship, DIGEST_DAYS, 1));
    }

    private static long mix(long h, long number) {
        return 31 * h + number;
    }

    private boolean hasBook() {
        return booksRead > 0;
    }

    private boolean isShip(int ship) {
        return ship >= 0 && ship < sea.ships;
    }

    private static boolean isName(int name) {
        return name >= 0 && name < NAMES;
    }

    private static boolean isWindOrCalm(int wind) {
        return wind >= 0 && wind <= CALM;
    }

    private static boolean isSign(int sign) {
        return sign >= 0 && sign < SIGNS;
    }

    private static boolean isKind(int kind) {
        return kind >= 0 && kind < KINDS;
    }

    private static boolean isPlace(int place) {
        return place >= 0 && place <= HOME;
    }

    private static boolean isPart(int part) {
        return part == 0 || part == 1;
    }

    /** Where a ship is when what it called (or NONE) served it. */
    private static int placeAhead(int kind, int place, int call) {
        int by = call == NONE ? 1 : SERVED_BY[kind];
        return Math.min(HOME, place + by);
    }

    /** Where a ship is when the wind turned on it, or drifted it back; who is home stays. */
    private static int placeBehind(int kind, int place, int call) {
        if (place == HOME) {
            return HOME;
        }
        int by = call == NONE ? 1 : TURNED_BY[kind];
        return Math.max(0, place - by);
    }

    private static int placeAfter(Book book, int kind, int place, int call, int wind) {
        if (wind == CALM) {
            return place;
        }
        return book.favours(call, wind) ? placeAhead(kind, place, call) : placeBehind(kind, place, call);
    }

    /** Of 30 to the days, how many chances bring a ship at a home before one at b. */
    private static int raceChances(Book book, int days, int a, int b) {
        if (b == HOME) {
            return 0;
        }
        if (a == HOME) {
            return SURE_OF[days];
        }
        if (days <= 0) {
            return 0;
        }
        int wins = 0;
        for (int wind = 0; wind <= CALM; wind++) {
            int weight = book.strengthInAll(wind);
            if (weight > 0) {
                int aThen = placeAfter(book, SHIP, a, NONE, wind);
                int bThen = placeAfter(book, SHIP, b, NONE, wind);
                wins += weight * raceChances(book, days - 1, aThen, bThen);
            }
        }
        return wins;
    }

    private static long inLowestTerms(int above, int below, int part) {
        int shared = greatestShared(above, below);
        int whole = part == 0 ? above : below;
        return shared > 0 ? whole / shared : whole;
    }

    private static int greatestShared(int above, int below) {
        int a = above;
        int b = below;
        // Euclid's remainders of ints end within 47 steps.
        for (int step = 0; step < 64 && b != 0; step++) {
            int rest = a % b;
            a = b;
            b = rest;
        }
        return a;
    }

    /** Letters that are written and not yet read as a book. */
    private static final class Page {
        private final int[] codes = new int[MOST_LETTERS];
        private int length;

        private int add(long w) {
            int more = lettersIn(w);
            if (more < 0) {
                return OUTSIDE;
            }
            if (length + more > MOST_LETTERS) {
                return FULL;
            }
            for (int i = 0; i < more; i++) {
                codes[length + i] = byteAt(w, i);
            }
            length += more;
            return length;
        }

        private int empty() {
            int had = length;
            length = 0;
            return had;
        }

        /** How many letters stand ahead of the zeros; NONE if these are no letters. */
        private static int lettersIn(long w) {
            int found = 0;
            for (int i = 0; i < 8; i++) {
                int code = byteAt(w, i);
                if (code > 126 || (code != 0 && found < i)) {
                    return NONE;
                }
                if (code != 0) {
                    found++;
                }
            }
            return found;
        }

        private static int byteAt(long w, int i) {
            return (int) (w >>> (8 * i)) & 255;
        }
    }

    /** Whose names are whose, and how strong each wind is by each sign. */
    private static final class Book {
        /** By wind (and calm) and sign, in tenths. */
        private final int[][] strength = new int[WINDS + 1][SIGNS];
        /** By name: its wind, or NONE. */
        private final int[] owner = new int[NAMES];

        private Book() {
            clear();
        }

        private void clear() {
            for (int wind = 0; wind < WINDS; wind++) {
                Arrays.fill(strength[wind], 0);
            }
            Arrays.fill(strength[CALM], TEN);
            Arrays.fill(owner, NONE);
        }

        private int nameCount() {
            int names = 0;
            for (int name = 0; name < NAMES; name++) {
                if (owner[name] != NONE) {
                    names++;
                }
            }
            return names;
        }

        /** Whether a wind brings on who called this (or drifts on who called NONE). */
        private boolean favours(int call, int wind) {
            return call == NONE ? wind == 0 || wind == 1 : owner[call] == wind;
        }

        /** The tenths by a sign of all winds that favour a call. */
        private int favour(int call, int sign) {
            int sum = 0;
            for (int wind = 0; wind < WINDS; wind++) {
                if (favours(call, wind)) {
                    sum += strength[wind][sign];
                }
            }
            return sum;
        }

        private int strengthInAll(int wind) {
            int sum = 0;
            for (int sign = 0; sign < SIGNS; sign++) {
                sum += strength[wind][sign];
            }
            return sum;
        }

        private int tellingSign() {
            int best = 0;
            for (int sign = 1; sign < SIGNS; sign++) {
                if (strongest(sign) > strongest(best)) {
                    best = sign;
                }
            }
            return best;
        }

        private int strongest(int sign) {
            int most = 0;
            for (int wind = 0; wind <= CALM; wind++) {
                most = Math.max(most, strength[wind][sign]);
            }
            return most;
        }
    }

    /** Reads a page into a book, letter by letter, as far as a book can have these letters. */
    private static final class Reader {
        /** What may come next in the part of a wind; from TENTHS on, a digit by each sign. */
        private static final int FIRST = 0, SECOND = 1, COLON = 2, TENTHS = 3, END = TENTHS + SIGNS;

        private int next;
        private int wind;

        /** The place of the first letter that no book has there, or how many letters there are. */
        private int read(Page page, Book book) {
            book.clear();
            next = FIRST;
            wind = 0;
            for (int i = 0; i < page.length; i++) {
                if (!takes(page.codes[i], book)) {
                    return i;
                }
            }
            return page.length;
        }

        private boolean atEnd() {
            return wind == WINDS - 1 && next == END;
        }

        private boolean takes(int letter, Book book) {
            switch (next) {
                case FIRST: return takesMark(letter, '-', COLON) || takesName(letter, book, SECOND);
                case SECOND: return takesMark(letter, ':', TENTHS) || takesName(letter, book, COLON);
                case COLON: return takesMark(letter, ':', TENTHS);
                case END: return takesNextWind(letter);
                default: return takesTenths(letter, book);
            }
        }

        private boolean takesMark(int letter, char mark, int then) {
            if (letter != mark) {
                return false;
            }
            next = then;
            return true;
        }

        private boolean takesName(int letter, Book book, int then) {
            int name = letter - '0';
            if (!isName(name) || book.owner[name] != NONE) {
                return false;
            }
            book.owner[name] = wind;
            next = then;
            return true;
        }

        private boolean takesTenths(int letter, Book book) {
            int sign = next - TENTHS;
            int digit = letter - '0';
            // What no wind has taken yet is the calm's.
            if (!isSign(sign) || digit < 0 || digit > 9 || digit > book.strength[CALM][sign]) {
                return false;
            }
            book.strength[wind][sign] = digit;
            book.strength[CALM][sign] -= digit;
            next++;
            return true;
        }

        private boolean takesNextWind(int letter) {
            if (wind >= WINDS - 1 || !takesMark(letter, '/', FIRST)) {
                return false;
            }
            wind++;
            return true;
        }
    }

    /** One ship: where it is and what befell it. */
    private static final class Ship {
        private int kind;
        private int place;
        private int call = NONE;
        private int served;
        private int turned;

        private void begin(int itsKind, int itsPlace) {
            kind = itsKind;
            place = itsPlace;
            call = NONE;
            served = 0;
            turned = 0;
        }

        /** It is as the other one, but calls nothing yet. */
        private void copyFrom(Ship other) {
            kind = other.kind;
            place = other.place;
            call = NONE;
            served = other.served;
            turned = other.turned;
        }

        private int tell(int what) {
            switch (what) {
                case 0: return kind;
                case 1: return place;
                case 2: return call;
                case 3: return served;
                default: return turned;
            }
        }

        private boolean isA(int other) {
            return other == SHIP || other == kind || (other == PILOT && kind == MASTER);
        }

        private boolean spends(int name) {
            return call == name && kind != MASTER;
        }
    }

    /** All that an image keeps: ships, spent names, days and answers. */
    private static final class Sea {
        private final Ship[] fleet = new Ship[MOST_SHIPS];
        /** By name: the winds whose it could be by the answers, as bits; one more for none. */
        private final int[] couldBe = new int[NAMES];
        private int ships;
        private int spentNames;
        private int days;
        private int answers;

        private Sea() {
            for (int i = 0; i < MOST_SHIPS; i++) {
                fleet[i] = new Ship();
            }
            clear();
        }

        private void clear() {
            Arrays.fill(couldBe, (1 << (WINDS + 1)) - 1);
            ships = 0;
            spentNames = 0;
            days = 0;
            answers = 0;
        }

        /** It goes on from the other one; nobody calls yet. */
        private void copyFrom(Sea other) {
            for (int i = 0; i < MOST_SHIPS; i++) {
                fleet[i].copyFrom(other.fleet[i]);
            }
            System.arraycopy(other.couldBe, 0, couldBe, 0, NAMES);
            ships = other.ships;
            spentNames = other.spentNames;
            days = other.days;
            answers = other.answers;
        }

        private int add(int kind, int place) {
            if (ships >= MOST_SHIPS) {
                return FULL;
            }
            fleet[ships].begin(kind, place);
            ships++;
            return ships - 1;
        }

        private boolean isSpent(int name) {
            return (spentNames >> name & 1) == 1;
        }

        private int freeNames() {
            return ALL_NAMES & ~spentNames;
        }

        private int spentCount() {
            return Integer.bitCount(spentNames);
        }

        private int homeCount() {
            int home = 0;
            for (int ship = 0; ship < ships; ship++) {
                if (fleet[ship].place == HOME) {
                    home++;
                }
            }
            return home;
        }

        private int placesTogether() {
            int sum = 0;
            for (int ship = 0; ship < ships; ship++) {
                sum += fleet[ship].place;
            }
            return sum;
        }

        /** A ship calls a name (or none) in place of what it called before: what that was. */
        private int replaceCall(int ship, int name) {
            int before = fleet[ship].call;
            fleet[ship].call = NONE;
            if (before != NONE && !isSpentToday(before)) {
                spentNames &= ~(1 << before);
            }
            beginCall(ship, name);
            return before;
        }

        private void beginCall(int ship, int name) {
            fleet[ship].call = name;
            if (name != NONE && fleet[ship].spends(name)) {
                spentNames |= 1 << name;
            }
        }

        private boolean isSpentToday(int name) {
            for (int ship = 0; ship < ships; ship++) {
                if (fleet[ship].spends(name)) {
                    return true;
                }
            }
            return false;
        }

        private void passDay(Book book, int wind) {
            for (int i = 0; i < ships; i++) {
                Ship ship = fleet[i];
                if (ship.call != NONE && wind != CALM) {
                    answer(book, ship, wind);
                }
                ship.place = placeAfter(book, ship.kind, ship.place, ship.call, wind);
                ship.call = NONE;
            }
            days++;
        }

        private void answer(Book book, Ship ship, int wind) {
            boolean serves = book.favours(ship.call, wind);
            if (serves) {
                ship.served++;
            } else {
                ship.turned++;
            }
            if (answers < MOST_ANSWERS) {
                answers++;
                couldBe[ship.call] &= serves ? 1 << wind : ~(1 << wind);
            }
        }

        /** So many days by draws from a seed: the seed then. */
        private int passYears(Book book, int howMany, int firstSeed) {
            int seed = firstSeed;
            for (int day = 0; day < howMany; day++) {
                seed = nextSeed(seed);
                int sign = drawOf(seed, SIGNS);
                for (int ship = 0; ship < ships; ship++) {
                    if (fleet[ship].place != HOME) {
                        seed = nextSeed(seed);
                        int name = drawOf(seed, NAMES + 1);
                        beginCall(ship, name == NAMES || isSpent(name) ? NONE : name);
                    }
                }
                seed = nextSeed(seed);
                passDay(book, windDrawn(book, sign, drawOf(seed, TEN)));
            }
            return seed;
        }

        private static int windDrawn(Book book, int sign, int draw) {
            int sum = 0;
            for (int wind = 0; wind < WINDS; wind++) {
                sum += book.strength[wind][sign];
                if (sum > draw) {
                    return wind;
                }
            }
            return CALM;
        }

        private static int nextSeed(int seed) {
            return (int) ((1103515245L * seed + 12345L) & 0x7fffffffL);
        }

        private static int drawOf(int seed, int of) {
            return of > 0 ? (seed >> 16) % of : 0;
        }
    }

    /** How likely one ship is home, if it always calls what makes that most. */
    private static final class Forecast {
        private static final int NOT_YET = -1;

        /** By days left: what chances() found, by place and free names. */
        private final int[][] found = new int[MOST_LIKELY_DAYS + 1][(HOME + 1) * NAME_SETS];
        /** By call (NONE first) and sign: the tenths of what brings on who called it. */
        private final int[][] ahead = new int[NAMES + 1][SIGNS];
        private final int[] calm = new int[SIGNS];
        private int kind;

        private void begin(Book book, int itsKind, int days) {
            kind = itsKind;
            for (int left = 1; left <= days; left++) {
                Arrays.fill(found[left], NOT_YET);
            }
            for (int sign = 0; sign < SIGNS; sign++) {
                calm[sign] = book.strength[CALM][sign];
                for (int call = NONE; call < NAMES; call++) {
                    ahead[call + 1][sign] = book.favour(call, sign);
                }
            }
        }

        /** Of 30 to the days, how many chances bring the ship home. */
        private int chances(int days, int place, int free) {
            if (place == HOME) {
                return SURE_OF[days];
            }
            if (days <= 0) {
                return 0;
            }
            int at = place * NAME_SETS + free;
            if (found[days][at] == NOT_YET) {
                int sum = 0;
                for (int sign = 0; sign < SIGNS; sign++) {
                    sum += worth(bestCall(sign, days, place, free), sign, days, place, free);
                }
                found[days][at] = sum;
            }
            return found[days][at];
        }

        private int bestCall(int sign, int days, int place, int free) {
            int best = NONE;
            int most = worth(NONE, sign, days, place, free);
            for (int name = 0; name < NAMES; name++) {
                if ((free >> name & 1) == 1) {
                    int itsWorth = worth(name, sign, days, place, free);
                    if (itsWorth > most) {
                        best = name;
                        most = itsWorth;
                    }
                }
            }
            return best;
        }

        /** Of 10 times 30 to the days behind this one, the chances if this is called by this sign. */
        private int worth(int call, int sign, int days, int place, int free) {
            int left = call == NONE || kind == MASTER ? free : free & ~(1 << call);
            int on = ahead[call + 1][sign];
            int still = calm[sign];
            int back = TEN - on - still;
            int sum = 0;
            if (on > 0) {
                sum += on * chances(days - 1, placeAhead(kind, place, call), left);
            }
            if (back > 0) {
                sum += back * chances(days - 1, placeBehind(kind, place, call), left);
            }
            if (still > 0) {
                sum += still * chances(days - 1, place, left);
            }
            return sum;
        }
    }

    /** Places of a ship, day by day, and what could have brought it there. */
    private static final class Wake {
        private final int[] places = new int[MOST_WAKE_DAYS + 1];
        private boolean begun;
        private int kind;
        private int days;

        private void begin(int itsKind, int place) {
            begun = true;
            kind = itsKind;
            places[0] = place;
            days = 0;
        }

        private void end() {
            begun = false;
            days = 0;
        }

        private int add(int place) {
            if (days >= MOST_WAKE_DAYS) {
                return FULL;
            }
            days++;
            places[days] = place;
            return days;
        }

        /** In how many ways the whole wake could be left; at most 35 a day, so it fits an int. */
        private int ways(Book book) {
            int product = 1;
            for (int day = 0; day < days; day++) {
                int sum = 0;
                for (int call = NONE; call < NAMES; call++) {
                    sum += waysBy(book, day, call);
                }
                product *= sum;
            }
            return product;
        }

        private int waysBy(Book book, int day, int call) {
            int from = places[day];
            if (from == HOME && call != NONE) {
                return 0;
            }
            int sum = 0;
            for (int wind = 0; wind <= CALM; wind++) {
                if (book.strengthInAll(wind) > 0 && placeAfter(book, kind, from, call, wind) == places[day + 1]) {
                    sum++;
                }
            }
            return sum;
        }

        /** What was called on a day in all ways; NOT_THE_SAME also if there are no ways. */
        private int callOn(Book book, int day) {
            if (ways(book) == 0) {
                return NOT_THE_SAME;
            }
            int only = NOT_THE_SAME;
            int calls = 0;
            for (int call = NONE; call < NAMES; call++) {
                if (waysBy(book, day, call) > 0) {
                    only = call;
                    calls++;
                }
            }
            return calls == 1 ? only : NOT_THE_SAME;
        }
    }
}
