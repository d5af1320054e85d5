import java.io.IOException;
import java.lang.reflect.Field;
import java.lang.reflect.Member;
import java.lang.reflect.Method;
import java.lang.reflect.Modifier;
import java.nio.file.Files;
import java.nio.file.Path;
import java.util.List;
import java.util.Set;
import java.util.TreeSet;
import java.util.regex.MatchResult;
import java.util.regex.Pattern;

/** The public face, and what of LANGUAGE.md shows from outside or in the text (the argument: its path). */
public final class FaceTest {
    private static final Set<String> FACE = new TreeSet<>(List.of(
            "int letters(long)", "int blank()", "int fault()", "int book()", "int tenths(int,int)", "int windOf(int)",
            "int ship(int,int)", "int about(int,int)", "int as(int,int)", "int call(int,int)", "int spent(int)",
            "int blow(int)", "int moon()", "long likely(int,int,int)", "int what(int,int,int)", "int sure(int)",
            "int tells()", "long race(int,int,int,int)", "int guess(int)", "int wake(int,int)", "int then(int)",
            "int called()", "int by(int)", "int years(int,int,int)", "int image()", "int restore()", "int count(int)",
            "long digest()"));
    private static final Set<String> CONSTANTS = Set.of("NONE", "UNKNOWN", "OUTSIDE", "STATE", "FULL");
    private static final String[] NOT_IN_THE_TEXT = {"throw", "catch", "finally", "->", "::", "synchronized",
        "assert ", "Exact(", "import static", "System.out", "Random", "Thread", "package "};
    /** What the class takes of rule 4; more of that rule may be added here. */
    private static final Set<String> LIBRARY =
            Set.of("Arrays.fill", "Integer.bitCount", "Math.max", "Math.min", "System.arraycopy");
    private static final Pattern LIBRARY_CALL = Pattern.compile("\\b[A-Z]\\w*\\.[a-z]\\w*(?=\\()");
    private static final int LONGEST_METHOD = 60, MOST_CLASSES = 12, MOST_FIELDS = 20, MOST_PARAMETERS = 7;

    public static void main(String[] args) throws IOException {
        constants();
        face();
        classesInside();
        text(args.length > 0 ? args[0] : "src/main/java/NamedWind.java");
        Check.end();
    }

    private static void constants() {
        Check.due("NONE", NamedWind.NONE, -1);
        Check.due("UNKNOWN", NamedWind.UNKNOWN, -101);
        Check.due("OUTSIDE", NamedWind.OUTSIDE, -102);
        Check.due("STATE", NamedWind.STATE, -103);
        Check.due("FULL", NamedWind.FULL, -104);
    }

    private static boolean isPrivate(Member member) {
        return Modifier.isPrivate(member.getModifiers());
    }

    private static void face() {
        Set<String> found = new TreeSet<>();
        for (Method method : NamedWind.class.getDeclaredMethods()) {
            if (!isPrivate(method) && !method.isSynthetic()) {
                found.add(method.toGenericString().replace("public ", "").replace("NamedWind.", ""));
            }
        }
        Check.holds("the methods are those of the face: " + found, found.equals(FACE));
        for (Field field : NamedWind.class.getDeclaredFields()) {
            boolean isOpen = Modifier.isPublic(field.getModifiers()) && CONSTANTS.contains(field.getName());
            Check.holds("field " + field.getName(), isPrivate(field) || isOpen);
        }
        Check.due("one constructor", NamedWind.class.getDeclaredConstructors().length, 1);
        Check.holds("public and final", NamedWind.class.getModifiers() == (Modifier.PUBLIC | Modifier.FINAL));
    }

    private static void classesInside() {
        Class<?>[] inside = NamedWind.class.getDeclaredClasses();
        Check.holds("not too many classes", inside.length + 1 <= MOST_CLASSES);
        ofOneClass(NamedWind.class);
        for (Class<?> one : inside) {
            Check.holds(one + " is private and static", Modifier.isPrivate(one.getModifiers())
                    && Modifier.isStatic(one.getModifiers()));
            ofOneClass(one);
        }
    }

    private static void ofOneClass(Class<?> one) {
        int fields = 0;
        for (Field field : one.getDeclaredFields()) {
            boolean isStatic = Modifier.isStatic(field.getModifiers());
            Check.holds(field + " is final if it is static", !isStatic || Modifier.isFinal(field.getModifiers()));
            fields += isStatic ? 0 : 1;
        }
        Check.holds(one + " has not too many fields", fields <= MOST_FIELDS);
        for (Method method : one.getDeclaredMethods()) {
            Check.holds(method + " has not too many parameters", method.getParameterCount() <= MOST_PARAMETERS);
            boolean isOfTheFace = FACE.stream().anyMatch(told -> told.contains(" " + method.getName() + "("));
            Check.holds(method + " bears no public name", !isPrivate(method) || !isOfTheFace);
        }
    }

    private static void text(String path) throws IOException {
        List<String> lines = Files.readAllLines(Path.of(path));
        int begun = -1;
        String end = "";
        for (int i = 0; i < lines.size(); i++) {
            String line = lines.get(i);
            Check.holds("signs of line " + (i + 1), line.chars().allMatch(sign -> sign >= 32 && sign < 127));
            boolean isComment = line.strip().startsWith("//") || line.strip().startsWith("/**");
            for (String not : NOT_IN_THE_TEXT) {
                Check.holds("no " + not + " in line " + (i + 1), isComment || !line.contains(not));
            }
            LIBRARY_CALL.matcher(line).results().map(MatchResult::group)
                    .forEach(call -> Check.holds(call + " is of the library", LIBRARY.contains(call)));
            if (line.startsWith("import ")) {
                Check.holds("import in line " + (i + 1), line.equals("import java.util.Arrays;"));
            }
            if (line.matches(" {4,8}[A-Za-z\\[\\]<> ]+\\(.*\\) \\{")) {
                begun = i;
                end = line.replaceFirst("\\S.*", "}");
            } else if (begun >= 0 && line.equals(end)) {
                Check.holds("length of " + lines.get(begun).strip(), i - begun < LONGEST_METHOD);
                begun = -1;
            }
        }
    }
}
