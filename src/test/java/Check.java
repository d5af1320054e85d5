/** What every test uses: a count of wrong answers, and calls that write a page from a text. */
final class Check {
    private static int asked = 0;
    private static int wrong = 0;
    private static String sentence = "";

    private Check() {
    }

    /** What the document says: it is told ahead of every wrong answer from here on. */
    static void sentence(String says) {
        sentence = "'" + says + "': ";
    }

    static void due(String what, long got, long want) {
        asked++;
        if (got != want) {
            wrong++;
            System.out.println(sentence + what + " answered " + got + ", due is " + want);
        }
    }

    static void holds(String what, boolean is) {
        due(what, is ? 1 : 0, 1);
    }

    /** Ends the test: exit code 1 if an answer was wrong, or nothing was asked. */
    static void end() {
        System.out.println(asked + " asked, " + wrong + " wrong");
        if (wrong > 0 || asked == 0) {
            System.exit(1);
        }
    }

    /** Up to eight letters of a text from a place on, as letters() takes them. */
    static long packed(String text, int from) {
        long w = 0;
        for (int i = 0; i < 8 && from + i < text.length(); i++) {
            w |= (long) text.charAt(from + i) << (8 * i);
        }
        return w;
    }

    static void write(NamedWind sea, String text) {
        for (int from = 0; from < text.length(); from += 8) {
            sea.letters(packed(text, from));
        }
    }

    /** A new object that has read a book. */
    static NamedWind seaOf(String book) {
        NamedWind sea = new NamedWind();
        write(sea, book);
        due("book() of " + book, sea.book(), book.chars().filter(c -> c == '/').count() == 3 ? names(book) : -1);
        return sea;
    }

    /** The same with ships, each by its kind and its place. */
    static NamedWind seaWith(String book, int... kindsAndPlaces) {
        NamedWind x = seaOf(book);
        for (int i = 0; i + 1 < kindsAndPlaces.length; i += 2) {
            x.ship(kindsAndPlaces[i], kindsAndPlaces[i + 1]);
        }
        return x;
    }

    private static int names(String book) {
        int names = 0;
        for (String part : book.split("/")) {
            String own = part.substring(0, part.indexOf(':'));
            names += own.equals("-") ? 0 : own.length();
        }
        return names;
    }

    /** A fraction, told by both its parts. */
    static void fraction(String what, long above, long below, long wantAbove, long wantBelow) {
        due(what + " above", above, wantAbove);
        due(what + " below", below, wantBelow);
    }
}
