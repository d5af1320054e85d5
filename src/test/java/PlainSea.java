import java.math.BigInteger;
import java.util.ArrayList;
import java.util.HashSet;
import java.util.List;
import java.util.Set;
import java.util.TreeSet;
import java.util.regex.Matcher;
import java.util.regex.Pattern;

/**
 * The document once more, in another way and without care for time: what NamedWind answers is held beside it.
 * Refusals are thrown inside and told by their numbers in answer().
 */
final class PlainSea {
    private static final Pattern FORM = Pattern.compile("(?:(?:[0-5]{1,2}|-):[0-9]{3}(?:/(?!$)|$)){4}");
    private static final Pattern PART = Pattern.compile("([0-5]{1,2}|-):([0-9])([0-9])([0-9])");

    static final class Refusal extends RuntimeException {
        private static final long serialVersionUID = 1;
        final int number;

        Refusal(int number) {
            super(null, null, false, false);
            this.number = number;
        }
    }

    static final class Boat implements Cloneable {
        int kind;
        int place;
        int call = -1;
        int served;
        int turned;

        Boat copy() {
            Boat other = new Boat();
            other.kind = kind;
            other.place = place;
            other.call = call;
            other.served = served;
            other.turned = turned;
            return other;
        }
    }

    record Answer(int name, int wind, boolean served) {
    }

    /** What an image keeps. */
    static final class State {
        List<Boat> boats = new ArrayList<>();
        Set<Integer> spent = new TreeSet<>();
        int days;
        List<Answer> answers = new ArrayList<>();

        State copy() {
            State other = new State();
            for (Boat boat : boats) {
                other.boats.add(boat.copy());
            }
            other.spent.addAll(spent);
            other.days = days;
            other.answers.addAll(answers);
            return other;
        }
    }

    private String page = "";
    private String[] book;
    private final int[][] strengths = new int[4][3];
    private final int[] owners = new int[6];
    private State now = new State();
    private State image;
    private List<Integer> wake;
    private int wakeKind;
    private int read;

    private static void refuse(boolean when, int number) {
        if (when) {
            throw new Refusal(number);
        }
    }

    private static void range(int x, int from, int to, int number) {
        refuse(x < from || x > to, number);
    }

    private Boat boat(int ship) {
        range(ship, 0, now.boats.size() - 1, NamedWind.UNKNOWN);
        return now.boats.get(ship);
    }

    private void needsBook() {
        refuse(book == null, NamedWind.STATE);
    }

    /** The answer of a call: which says the call by its place in the public face. */
    long answer(int which, long w, int a, int b, int c, int d) {
        try {
            return which < 14 ? early(which, w, a, b) : late(which, a, b, c, d);
        } catch (Refusal refusal) {
            return refusal.number;
        }
    }

    private long early(int which, long w, int a, int b) {
        switch (which) {
            case 0: return letters(w);
            case 1: return blank();
            case 2: return fault();
            case 3: return book();
            case 4: return tenths(a, b);
            case 5: return windOf(a);
            case 6: return ship(a, b);
            case 7: return about(a, b);
            case 8: return as(a, b);
            case 9: return call(a, b);
            case 10: return spent(a);
            case 11: return blow(a);
            case 12: return moon();
            default: return tells();
        }
    }

    private long late(int which, int a, int b, int c, int d) {
        switch (which) {
            case 14: return likely(a, b, c);
            case 15: return what(a, b, c);
            case 16: return sure(a);
            case 17: return race(a, b, c, d);
            case 18: return guess(a);
            case 19: return wake(a, b);
            case 20: return then(a);
            case 21: return called();
            case 22: return by(a);
            case 23: return years(a, b, c);
            case 24: return keep();
            case 25: return restore();
            case 26: return count(a);
            default: return digest();
        }
    }

    private long letters(long w) {
        StringBuilder text = new StringBuilder();
        boolean over = false;
        for (int shift = 0; shift < 64; shift += 8) {
            char code = (char) (w >> shift & 0xff);
            refuse(code > 126 || (over && code != 0), NamedWind.OUTSIDE);
            over |= code == 0;
            if (!over) {
                text.append(code);
            }
        }
        refuse(page.length() + text.length() > 30, NamedWind.FULL);
        page += text;
        return page.length();
    }

    private long blank() {
        int had = page.length();
        page = "";
        return had;
    }

    /** Whether a text could stand at the start of a book. */
    static boolean mayBegin(String text) {
        Matcher form = FORM.matcher(text);
        if (!form.matches() && !couldGoOn(text)) {
            return false;
        }
        Set<Character> names = new HashSet<>();
        int[] sums = new int[3];
        int digit = -1;
        for (char letter : text.toCharArray()) {
            if (letter == ':') {
                digit = 0;
            } else if (letter == '/') {
                digit = -1;
            } else if (digit >= 0) {
                sums[digit] += letter - '0';
                if (sums[digit] > 10) {
                    return false;
                }
                digit++;
            } else if (letter != '-' && !names.add(letter)) {
                return false;
            }
        }
        return true;
    }

    private static boolean couldGoOn(String text) {
        String[] tails = {"", "-:000", ":000", "000", "00", "0"};
        for (String tail : tails) {
            StringBuilder whole = new StringBuilder(text).append(tail);
            for (int more = 0; more < 4; more++) {
                if (FORM.matcher(whole).matches()) {
                    return true;
                }
                whole.append("/-:000");
            }
        }
        return false;
    }

    private long fault() {
        int good = 0;
        while (good < page.length() && mayBegin(page.substring(0, good + 1))) {
            good++;
        }
        return good;
    }

    private long book() {
        refuse(!FORM.matcher(page).matches() || !mayBegin(page), NamedWind.STATE);
        book = page.split("/");
        for (int wind = 0; wind < 4; wind++) {
            Matcher part = part(wind);
            for (int sign = 0; sign < 3; sign++) {
                strengths[wind][sign] = Integer.parseInt(part.group(2 + sign));
            }
            for (int name = 0; name < 6; name++) {
                owners[name] = (wind == 0 ? -1 : owners[name]);
                if (part.group(1).indexOf('0' + name) >= 0) {
                    owners[name] = wind;
                }
            }
        }
        page = "";
        now = new State();
        image = null;
        wake = null;
        read++;
        return names();
    }

    private int names() {
        int names = 0;
        for (int name = 0; name < 6; name++) {
            if (owner(name) >= 0) {
                names++;
            }
        }
        return names;
    }

    private Matcher part(int wind) {
        Matcher matcher = PART.matcher(book[wind]);
        if (!matcher.matches()) {
            throw new IllegalStateException(book[wind]);
        }
        return matcher;
    }

    private int owner(int name) {
        return book == null ? -1 : owners[name];
    }

    private int strength(int wind, int sign) {
        if (wind < 4) {
            return strengths[wind][sign];
        }
        return 10 - strength(0, sign) - strength(1, sign) - strength(2, sign) - strength(3, sign);
    }

    private long tenths(int wind, int sign) {
        range(wind, 0, 4, NamedWind.UNKNOWN);
        range(sign, 0, 2, NamedWind.UNKNOWN);
        needsBook();
        return strength(wind, sign);
    }

    private long windOf(int name) {
        range(name, 0, 5, NamedWind.UNKNOWN);
        needsBook();
        return owner(name);
    }

    private long ship(int kind, int place) {
        range(place, 0, 9, NamedWind.UNKNOWN);
        range(kind, 0, 4, NamedWind.OUTSIDE);
        needsBook();
        refuse(now.boats.size() == 6, NamedWind.FULL);
        Boat boat = new Boat();
        boat.kind = kind;
        boat.place = place;
        now.boats.add(boat);
        return now.boats.size() - 1;
    }

    private long about(int ship, int what) {
        Boat boat = boat(ship);
        range(what, 0, 4, NamedWind.OUTSIDE);
        return List.of(boat.kind, boat.place, boat.call, boat.served, boat.turned).get(what);
    }

    private long as(int ship, int kind) {
        Boat boat = boat(ship);
        range(kind, 0, 4, NamedWind.OUTSIDE);
        List<Set<Integer>> kinds = List.of(Set.of(0), Set.of(0, 1), Set.of(0, 2), Set.of(0, 3), Set.of(0, 3, 4));
        return kinds.get(boat.kind).contains(kind) ? ship : -1;
    }

    private long call(int ship, int name) {
        Boat boat = boat(ship);
        range(name, -1, 5, NamedWind.UNKNOWN);
        refuse(boat.place == 9 || now.spent.contains(name), NamedWind.STATE);
        int before = boat.call;
        if (before >= 0 && boat.kind != 4) {
            boolean other = false;
            for (int i = 0; i < now.boats.size(); i++) {
                Boat one = now.boats.get(i);
                other |= i != ship && one.call == before && one.kind != 4;
            }
            if (!other) {
                now.spent.remove(before);
            }
        }
        boat.call = name;
        if (name >= 0 && boat.kind != 4) {
            now.spent.add(name);
        }
        return before;
    }

    private long spent(int name) {
        range(name, 0, 5, NamedWind.UNKNOWN);
        return now.spent.contains(name) ? 1 : 0;
    }

    private int moved(Boat boat, int call, int wind) {
        if (wind == 4 || boat.place == 9) {
            return boat.place;
        }
        int by;
        if (call < 0) {
            by = wind <= 1 ? 1 : -1;
        } else if (owner(call) == wind) {
            by = boat.kind == 1 ? 3 : boat.kind == 2 ? 1 : 2;
        } else {
            by = boat.kind >= 2 ? -1 : -2;
        }
        return Math.min(9, Math.max(0, boat.place + by));
    }

    private void day(State state, int wind) {
        for (Boat boat : state.boats) {
            boat.place = moved(boat, boat.call, wind);
            if (boat.call >= 0 && wind < 4) {
                boolean served = owner(boat.call) == wind;
                boat.served += served ? 1 : 0;
                boat.turned += served ? 0 : 1;
                if (state.answers.size() < 40) {
                    state.answers.add(new Answer(boat.call, wind, served));
                }
            }
            boat.call = -1;
        }
        state.days++;
    }

    private static int home(State state) {
        return (int) state.boats.stream().filter(boat -> boat.place == 9).count();
    }

    private long blow(int wind) {
        range(wind, 0, 4, NamedWind.UNKNOWN);
        needsBook();
        day(now, wind);
        return home(now);
    }

    private long moon() {
        int were = now.spent.size();
        now.spent.clear();
        return were;
    }

    private long tells() {
        needsBook();
        int best = 0;
        int most = 0;
        for (int sign = 0; sign < 3; sign++) {
            for (int wind = 0; wind < 5; wind++) {
                if (strength(wind, sign) > most) {
                    most = strength(wind, sign);
                    best = sign;
                }
            }
        }
        return best;
    }

    /** A chance as a part of 30 to the days (10 times 30 to the days less one by a sign), by trying all. */
    private long chance(Boat boat, Set<Integer> free, int days) {
        if (boat.place == 9) {
            return (long) Math.pow(30, days);
        }
        long sum = 0;
        for (int sign = 0; days > 0 && sign < 3; sign++) {
            long most = 0;
            for (int call = -1; call < 6; call++) {
                if (call < 0 || free.contains(call)) {
                    most = Math.max(most, chanceBy(boat, free, days, sign, call));
                }
            }
            sum += most;
        }
        return sum;
    }

    private long chanceBy(Boat boat, Set<Integer> free, int days, int sign, int call) {
        Set<Integer> left = new TreeSet<>(free);
        if (boat.kind != 4) {
            left.remove(call);
        }
        long sum = 0;
        for (int wind = 0; wind < 5; wind++) {
            if (strength(wind, sign) > 0) {
                Boat then = boat.copy();
                then.place = moved(boat, call, wind);
                sum += strength(wind, sign) * chance(then, left, days - 1);
            }
        }
        return sum;
    }

    private Set<Integer> free() {
        Set<Integer> free = new TreeSet<>(Set.of(0, 1, 2, 3, 4, 5));
        free.removeAll(now.spent);
        return free;
    }

    private static long part(long above, long below, int part) {
        BigInteger shared = BigInteger.valueOf(above).gcd(BigInteger.valueOf(below));
        return BigInteger.valueOf(part == 0 ? above : below).divide(shared).longValue();
    }

    private long likely(int ship, int days, int part) {
        Boat boat = boat(ship);
        range(days, 1, 4, NamedWind.OUTSIDE);
        range(part, 0, 1, NamedWind.OUTSIDE);
        return part(chance(boat, free(), days), (long) Math.pow(30, days), part);
    }

    private long what(int ship, int sign, int days) {
        Boat boat = boat(ship);
        range(sign, 0, 2, NamedWind.UNKNOWN);
        range(days, 1, 4, NamedWind.OUTSIDE);
        Set<Integer> free = free();
        int best = -1;
        long most = -1;
        for (int call = -1; call < 6; call++) {
            if (call < 0 || (boat.place < 9 && free.contains(call))) {
                long chance = chanceBy(boat, free, days, sign, call);
                if (chance > most) {
                    most = chance;
                    best = call;
                }
            }
        }
        return best;
    }

    private boolean isSure(Boat boat, Set<Integer> free, int days) {
        if (boat.place == 9 || days == 0) {
            return boat.place == 9;
        }
        for (int sign = 0; sign < 3; sign++) {
            boolean some = false;
            for (int call = -1; call < 6 && !some; call++) {
                if (call < 0 || free.contains(call)) {
                    some = isSureBy(boat, free, days, sign, call);
                }
            }
            if (!some) {
                return false;
            }
        }
        return true;
    }

    private boolean isSureBy(Boat boat, Set<Integer> free, int days, int sign, int call) {
        Set<Integer> left = new TreeSet<>(free);
        if (boat.kind != 4) {
            left.remove(call);
        }
        for (int wind = 0; wind < 5; wind++) {
            Boat then = boat.copy();
            then.place = moved(boat, call, wind);
            if (strength(wind, sign) > 0 && !isSure(then, left, days - 1)) {
                return false;
            }
        }
        return true;
    }

    private long sure(int ship) {
        Boat boat = boat(ship);
        Set<Integer> free = free();
        for (int days = 0; days <= 4; days++) {
            if (isSure(boat, free, days)) {
                return days;
            }
        }
        return -1;
    }

    /** Every wind of every day is told by a digit of one number; calms are the fifth. */
    private long race(int a, int b, int days, int part) {
        refuse(a < 0 || b < 0 || a >= now.boats.size() || b >= now.boats.size() || a == b, NamedWind.UNKNOWN);
        range(days, 1, 6, NamedWind.OUTSIDE);
        range(part, 0, 1, NamedWind.OUTSIDE);
        long wins = 0;
        for (int course = 0; course < (int) Math.pow(5, days); course++) {
            wins += wins(now.boats.get(a).copy(), now.boats.get(b).copy(), days, course);
        }
        return part(wins, (long) Math.pow(30, days), part);
    }

    private long wins(Boat a, Boat b, int days, int course) {
        long weight = 1;
        boolean won = a.place == 9 && b.place < 9;
        boolean over = a.place == 9 || b.place == 9;
        int rest = course;
        for (int day = 0; day < days; day++) {
            int wind = rest % 5;
            rest /= 5;
            weight *= strength(wind, 0) + strength(wind, 1) + strength(wind, 2);
            if (weight == 0) {
                return 0;
            }
            a.place = moved(a, -1, wind);
            b.place = moved(b, -1, wind);
            if (!over) {
                won = a.place == 9 && b.place < 9;
                over = a.place == 9 || b.place == 9;
            }
        }
        return won ? weight : 0;
    }

    private long guess(int name) {
        range(name, 0, 5, NamedWind.UNKNOWN);
        int bits = 0;
        for (int wind = 0; wind < 5; wind++) {
            boolean could = true;
            for (Answer answer : now.answers) {
                could &= answer.name != name || answer.served == (answer.wind == wind);
            }
            bits |= could ? 1 << wind : 0;
        }
        return bits;
    }

    private long wake(int ship, int place) {
        Boat boat = boat(ship);
        range(place, 0, 9, NamedWind.UNKNOWN);
        int were = wake == null ? 0 : wake.size() - 1;
        wake = new ArrayList<>(List.of(place));
        wakeKind = boat.kind;
        return were;
    }

    private long then(int place) {
        refuse(wake == null, NamedWind.STATE);
        range(place, 0, 9, NamedWind.UNKNOWN);
        refuse(wake.size() == 7, NamedWind.FULL);
        wake.add(place);
        return wake.size() - 1;
    }

    /** All ways of the wake from a day on; what is called on one day goes into a set. */
    private long ways(int day, int told, Set<Integer> calls) {
        if (day == wake.size() - 1) {
            return 1;
        }
        long ways = 0;
        for (int call = -1; call < 6; call++) {
            for (int wind = 0; wind < 5; wind++) {
                Boat boat = new Boat();
                boat.kind = wakeKind;
                boat.place = wake.get(day);
                boolean can = strength(wind, 0) + strength(wind, 1) + strength(wind, 2) > 0;
                if (can && (call < 0 || boat.place < 9) && moved(boat, call, wind) == wake.get(day + 1)) {
                    long rest = ways(day + 1, -1, calls);
                    if (rest > 0 && day == told) {
                        calls.add(call);
                    }
                    ways += rest;
                }
            }
        }
        return ways;
    }

    private long called() {
        refuse(wake == null, NamedWind.STATE);
        long ways = 1;
        List<Integer> whole = wake;
        for (int day = 0; day + 1 < whole.size(); day++) {
            wake = whole.subList(day, day + 2);
            ways *= ways(0, -1, new HashSet<>());
        }
        wake = whole;
        return ways;
    }

    private long by(int day) {
        refuse(wake == null, NamedWind.STATE);
        range(day, 0, wake.size() - 2, NamedWind.UNKNOWN);
        if (called() == 0) {
            return 6;
        }
        List<Integer> whole = wake;
        wake = whole.subList(day, day + 2);
        Set<Integer> calls = new HashSet<>();
        ways(0, 0, calls);
        wake = whole;
        return calls.size() == 1 ? calls.iterator().next() : 6;
    }

    private long seed;

    private int draw(int of) {
        seed = BigInteger.valueOf(1103515245).multiply(BigInteger.valueOf(seed)).add(BigInteger.valueOf(12345))
                .mod(BigInteger.TWO.pow(31)).longValue();
        return (int) (seed / 65536 % of);
    }

    private long years(int days, int firstSeed, int what) {
        range(days, 1, 60, NamedWind.OUTSIDE);
        range(firstSeed, 0, Integer.MAX_VALUE, NamedWind.OUTSIDE);
        range(what, 0, 3, NamedWind.OUTSIDE);
        needsBook();
        State then = now.copy();
        seed = firstSeed;
        for (int day = 0; day < days; day++) {
            oneOfYears(then);
        }
        int places = then.boats.stream().mapToInt(boat -> boat.place).sum();
        return new long[] {home(then), places, then.spent.size(), seed}[what];
    }

    private void oneOfYears(State then) {
        int sign = draw(3);
        for (Boat boat : then.boats) {
            boat.call = -1;
            if (boat.place < 9) {
                int name = draw(7);
                if (name < 6 && !then.spent.contains(name)) {
                    boat.call = name;
                    if (boat.kind != 4) {
                        then.spent.add(name);
                    }
                }
            }
        }
        int drawn = draw(10);
        int wind = 0;
        int sum = 0;
        while (wind < 4) {
            sum += strength(wind, sign);
            if (sum > drawn) {
                break;
            }
            wind++;
        }
        day(then, wind);
    }

    private long keep() {
        needsBook();
        image = now.copy();
        return now.boats.size();
    }

    private long restore() {
        refuse(image == null, NamedWind.STATE);
        now = image.copy();
        for (Boat boat : now.boats) {
            boat.call = -1;
        }
        wake = null;
        return now.boats.size();
    }

    private long count(int what) {
        range(what, 0, 8, NamedWind.OUTSIDE);
        int wakeDays = wake == null ? 0 : wake.size() - 1;
        return List.of(names(), now.boats.size(), home(now), now.spent.size(), now.days, now.answers.size(),
                wakeDays, page.length(), read).get(what);
    }

    private long digest() {
        List<Long> all = new ArrayList<>();
        for (int i = 0; book != null && i < 15; i++) {
            all.add(tenths(i / 3, i % 3));
        }
        for (int name = 0; book != null && name < 6; name++) {
            all.add(windOf(name));
        }
        if (book != null) {
            all.add(tells());
        }
        for (int name = 0; name < 6; name++) {
            all.addAll(List.of(spent(name), guess(name)));
        }
        for (int ship = 0; ship < now.boats.size(); ship++) {
            for (int what = 0; what < 5; what++) {
                all.add(about(ship, what));
            }
            all.addAll(List.of(likely(ship, 2, 0), likely(ship, 2, 1)));
        }
        if (wake != null) {
            all.add(called());
        }
        for (char letter : page.toCharArray()) {
            all.add((long) letter);
        }
        for (int what = 0; what < 9; what++) {
            all.add(count(what));
        }
        BigInteger h = BigInteger.valueOf(661);
        for (long number : all) {
            h = h.multiply(BigInteger.valueOf(31)).add(BigInteger.valueOf(number));
        }
        return h.longValue();
    }
}
