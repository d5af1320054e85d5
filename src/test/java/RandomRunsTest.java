/** Long runs of calls drawn by a fixed seed: each answer of NamedWind is that of PlainSea. */
public final class RandomRunsTest {
    private static final int RUNS = 250, LONG_RUNS = 40, CALLS = 500;
    private static final String[] CALL = {"letters", "blank", "fault", "book", "tenths", "windOf", "ship", "about",
        "as", "call", "spent", "blow", "moon", "tells", "likely", "what", "sure", "race", "guess", "wake", "then",
        "called", "by", "years", "image", "restore", "count", "digest"};
    /** How often each of them comes, in the same order; letters and book come by writeBook, too. */
    private static final int[] OFTEN = {2, 1, 2, 1, 4, 2, 9, 6, 3, 24, 4, 14, 3, 2, 4, 6, 3, 6, 6, 3, 8, 6, 6, 6, 2, 2, 4, 6};
    private static final int[] ODD = {-1, -2, 5, 6, 7, 10, 61, 100, Integer.MAX_VALUE, Integer.MIN_VALUE};

    private static final java.util.Random DRAW = new java.util.Random(20261118);
    private static NamedWind sea;
    private static PlainSea plain;
    private static int run;

    public static void main(String[] args) {
        for (run = 0; run < RUNS; run++) {
            sea = new NamedWind();
            plain = new PlainSea();
            if (run % 10 != 0) {
                writeBook();
            }
            for (int i = 0; i < CALLS; i++) {
                draws(DRAW.nextInt(240));
            }
        }
        for (run = RUNS; run < RUNS + LONG_RUNS; run++) {
            longForecast();
        }
        Check.end();
    }

    /** Three and four days take PlainSea long, so these are fewer. */
    private static void longForecast() {
        sea = new NamedWind();
        plain = new PlainSea();
        do {
            writeBook();
        } while (sea.count(8) == 0);
        for (int ship = 0; ship < 5; ship++) {
            same(6, 0, new int[] {DRAW.nextInt(5), DRAW.nextInt(10), 0, 0});
        }
        for (int ship = 0; ship < 4; ship++) {
            same(9, 0, new int[] {ship, DRAW.nextInt(6), 0, 0});
        }
        for (int part = 0; part < 2; part++) {
            same(14, 0, new int[] {part, 3, part, 0});
            same(14, 0, new int[] {2 + part, 4, part, 0});
        }
        same(16, 0, new int[] {2, 0, 0, 0});
        for (int sign = 0; sign < 3; sign++) {
            same(15, 0, new int[] {sign, sign, 3, 0});
        }
        same(15, 0, new int[] {4, run % 3, 4, 0});
    }

    private static void draws(int draw) {
        if (draw == 0) {
            writeBook();
        } else if (draw < 8) {
            leaveWake();
        } else if (draw < 20) {
            passDay();
        } else {
            oneCall();
        }
    }

    /** A wake of steps that mostly can be, and all that is told of it. */
    private static void leaveWake() {
        int place = DRAW.nextInt(10);
        same(19, 0, new int[] {DRAW.nextInt(6), place, 0, 0});
        int days = DRAW.nextInt(7);
        for (int day = 0; day < days; day++) {
            place = Math.max(0, Math.min(9, place + DRAW.nextInt(6) - 2));
            same(20, 0, new int[] {place, 0, 0, 0});
            same(21, 0, new int[4]);
        }
        for (int day = 0; day <= days; day++) {
            same(22, 0, new int[] {day, 0, 0, 0});
        }
    }

    /** Every ship calls something, more than once, behind a new moon or not; then a wind blows. */
    private static void passDay() {
        for (int i = 0; i < 9; i++) {
            same(9, 0, new int[] {i % 6, DRAW.nextInt(6), 0, 0});
            if (DRAW.nextInt(6) == 0) {
                same(12, 0, new int[4]);
            }
            same(10, 0, new int[] {DRAW.nextInt(6), 0, 0, 0});
        }
        same(11, 0, new int[] {DRAW.nextInt(5), 0, 0, 0});
        for (int name = 0; name < 6; name++) {
            same(18, 0, new int[] {name, 0, 0, 0});
        }
    }

    private static void oneCall() {
        int draw = DRAW.nextInt(java.util.Arrays.stream(OFTEN).sum());
        int which = 0;
        while (draw >= OFTEN[which]) {
            draw -= OFTEN[which];
            which++;
        }
        long w = which == 0 ? someLetters() : 0;
        int[] most = bounds(which);
        int[] args = new int[4];
        for (int i = 0; i < most.length; i++) {
            args[i] = DRAW.nextInt(25) == 0 ? ODD[DRAW.nextInt(ODD.length)] : DRAW.nextInt(most[i] + 1);
        }
        if (which == 9 && DRAW.nextInt(6) == 0) {
            args[1] = -1;
        }
        if (which == 23 && DRAW.nextInt(3) == 0) {
            args[1] = Integer.MAX_VALUE - args[1];
        }
        same(which, w, args);
    }

    private static int[] bounds(int which) {
        switch (CALL[which]) {
            case "tenths": return new int[] {4, 2};
            case "windOf": case "spent": case "guess": case "by": return new int[] {5};
            case "ship": return new int[] {4, 9};
            case "about": case "as": return new int[] {5, 4};
            case "call": return new int[] {5, 5};
            case "blow": return new int[] {4};
            case "likely": return new int[] {5, 2, 1};
            case "what": return new int[] {5, 2, 2};
            case "sure": return new int[] {5};
            case "race": return new int[] {5, 5, 6, 1};
            case "wake": return new int[] {5, 9};
            case "then": return new int[] {9};
            case "years": return new int[] {60, 1000000000, 3};
            case "count": return new int[] {8};
            default: return new int[0];
        }
    }

    private static long someLetters() {
        switch (DRAW.nextInt(5)) {
            case 0: return DRAW.nextLong();
            case 1: return DRAW.nextLong() & 0x7f7fL;
            case 2: return Check.packed("0123456789:/-".substring(DRAW.nextInt(13)), 0);
            default: return Check.packed(someBook(), DRAW.nextInt(3) * 8);
        }
    }

    private static void writeBook() {
        same(1, 0, new int[4]);
        String text = someBook();
        for (int from = 0; from < text.length(); from += 8) {
            same(0, Check.packed(text, from), new int[4]);
        }
        same(2, 0, new int[4]);
        same(3, 0, new int[4]);
    }

    /** Mostly a good book; sometimes one letter of it is another one, or it is cut or longer. */
    private static String someBook() {
        java.util.List<Integer> names = new java.util.ArrayList<>(java.util.List.of(0, 1, 2, 3, 4, 5));
        java.util.Collections.shuffle(names, DRAW);
        int[] left = {10, 10, 10};
        boolean noCalm = DRAW.nextInt(4) == 0;
        StringBuilder text = new StringBuilder();
        for (int wind = 0; wind < 4; wind++) {
            int own = Math.min(DRAW.nextInt(3), names.size());
            text.append(own == 0 ? "-" : "");
            for (int i = 0; i < own; i++) {
                text.append(names.remove(0));
            }
            text.append(':');
            for (int sign = 0; sign < 3; sign++) {
                int tenths = Math.min(9, wind == 3 && noCalm ? left[sign] : DRAW.nextInt(left[sign] + 1));
                left[sign] -= tenths;
                text.append(tenths);
            }
            text.append(wind < 3 ? "/" : "");
        }
        if (DRAW.nextInt(4) == 0) {
            text.setCharAt(DRAW.nextInt(text.length()), "0123456789:/-a".charAt(DRAW.nextInt(14)));
        }
        if (DRAW.nextInt(12) == 0) {
            text.setLength(DRAW.nextInt(text.length()));
        }
        return text.toString();
    }

    private static void same(int which, long w, int[] x) {
        String told = "run " + run + ": " + CALL[which] + " " + w + " " + java.util.Arrays.toString(x);
        Check.due(told, got(which, w, x[0], x[1], x[2], x[3]), plain.answer(which, w, x[0], x[1], x[2], x[3]));
    }

    private static long got(int which, long w, int a, int b, int c, int d) {
        switch (CALL[which]) {
            case "letters": return sea.letters(w);
            case "blank": return sea.blank();
            case "fault": return sea.fault();
            case "book": return sea.book();
            case "tenths": return sea.tenths(a, b);
            case "windOf": return sea.windOf(a);
            case "ship": return sea.ship(a, b);
            case "about": return sea.about(a, b);
            case "as": return sea.as(a, b);
            case "call": return sea.call(a, b);
            case "spent": return sea.spent(a);
            case "blow": return sea.blow(a);
            case "moon": return sea.moon();
            case "tells": return sea.tells();
            case "likely": return sea.likely(a, b, c);
            case "what": return sea.what(a, b, c);
            case "sure": return sea.sure(a);
            case "race": return sea.race(a, b, c, d);
            case "guess": return sea.guess(a);
            case "wake": return sea.wake(a, b);
            case "then": return sea.then(a);
            case "called": return sea.called();
            case "by": return sea.by(a);
            case "years": return sea.years(a, b, c);
            case "image": return sea.image();
            case "restore": return sea.restore();
            case "count": return sea.count(a);
            default: return sea.digest();
        }
    }
}
