import java.io.IOException;
import java.io.UncheckedIOException;
import java.lang.reflect.Method;
import java.lang.reflect.Modifier;
import java.net.URL;
import java.net.URLClassLoader;
import java.nio.file.Files;
import java.nio.file.Path;
import java.util.ArrayList;
import java.util.Comparator;
import java.util.List;
import java.util.Set;
import java.util.TreeSet;
import java.util.concurrent.TimeUnit;
import java.util.regex.Matcher;
import java.util.regex.Pattern;
import java.util.stream.Collectors;
import java.util.stream.Stream;
import javax.tools.ToolProvider;

/** README.md is right: its example answers as it says, its commands run, its table has the tests. */
public final class ReadmeTest {
    private static final Path README = Path.of("README.md"), TESTS = Path.of("src/test/java");
    private static final Pattern MAKES = Pattern.compile("NamedWind sea = new NamedWind\\(\\);");
    private static final Pattern CALLS =
            Pattern.compile("(?:int (\\w+) = )?(sea\\.(\\w+)\\((.*)\\));\\s+// (-?\\d+): (.+)");
    private static final Pattern QUOTED = Pattern.compile("\"([^\"]+)\"");
    private static final Pattern REFUSED = Pattern.compile("`([A-Z]+)` \\((-\\d+)\\)");
    private static final Pattern ROW = Pattern.compile("\\| `(\\w+)` \\| (.+) \\|");
    private static final Pattern PROMISES = Pattern.compile("promises ([\\d to,and]+):.*");
    private static final Pattern LAST_LINE = Pattern.compile("(\\d+) asked, (\\d+) wrong");
    private static final int PROMISES_TOLD = 29, LONGEST_WAIT = 120;

    public static void main(String[] args) throws Exception {
        Path work = Files.createTempDirectory("readme");
        try {
            String text = Files.readString(README);
            example(blocks("java").get(0), work);
            refusals(text);
            commands(work);
            table();
            wrongAnswersAreTold(work);
        } finally {
            removeAll(work);
        }
        Check.end();
    }

    /** The blocks of a language, each as its lines. */
    private static List<List<String>> blocks(String language) throws IOException {
        List<List<String>> found = new ArrayList<>();
        List<String> block = null;
        for (String line : Files.readAllLines(README)) {
            if (line.equals("```") && block != null) {
                found.add(block);
                block = null;
            } else if (block != null) {
                block.add(line);
            } else if (line.equals("```" + language)) {
                block = new ArrayList<>();
            }
        }
        Check.holds("blocks of " + language, block == null && !found.isEmpty());
        return found;
    }

    /** It compiles as it stands, each call answers what stands behind it, and no call of the face is left out. */
    private static void example(List<String> lines, Path work) throws Exception {
        StringBuilder kept = new StringBuilder();
        List<Long> want = new ArrayList<>();
        List<String> told = new ArrayList<>();
        Set<String> shown = new TreeSet<>();
        for (String line : lines) {
            Matcher call = CALLS.matcher(line);
            if (call.matches()) {
                String name = call.group(1) == null ? "answer" + want.size() : call.group(1);
                kept.append(call.group(1) == null ? "long " : "int ").append(name).append(" = ")
                        .append(call.group(2)).append("; got.add((long) ").append(name).append(");\n");
                want.add(Long.parseLong(call.group(5)));
                told.add("README: " + call.group(2));
                shown.add(call.group(3));
                quoted(call);
            } else {
                Check.holds("a line of the example that is no call: " + line,
                        line.isEmpty() || line.startsWith("// ") || MAKES.matcher(line).matches());
                kept.append(line).append('\n');
            }
        }
        Set<String> face = Stream.of(NamedWind.class.getDeclaredMethods())
                .filter(method -> Modifier.isPublic(method.getModifiers()))
                .map(Method::getName).collect(Collectors.toCollection(TreeSet::new));
        Check.holds("the example shows " + shown + ", the face has " + face, shown.equals(face));
        List<?> got = answersOf(String.join("\n", lines), kept.toString(), work);
        Check.due("answers of the example", got.size(), want.size());
        for (int i = 0; i < got.size() && i < want.size(); i++) {
            Check.due(told.get(i), (Long) got.get(i), want.get(i));
        }
    }

    /** What letters() is said to write is what its number says. */
    private static void quoted(Matcher call) {
        if (call.group(3).equals("letters")) {
            Matcher text = QUOTED.matcher(call.group(6));
            boolean isQuoted = text.find();
            Check.holds("letters are told: " + call.group(), isQuoted);
            Check.due("the letters of " + call.group(2), Long.parseLong(call.group(4).replace("L", "")),
                    isQuoted ? Check.packed(text.group(1), 0) : -1);
        }
    }

    private static List<?> answersOf(String asShown, String kept, Path work) throws Exception {
        String source = "public final class Example {\n"
                + "public static void asShown() {\n" + asShown + "\n}\n"
                + "public static java.util.List<Long> answers() {\n"
                + "java.util.List<Long> got = new java.util.ArrayList<>();\n" + kept + "return got;\n}\n}\n";
        Path out = Files.createDirectory(work.resolve("example"));
        Files.writeString(out.resolve("Example.java"), source);
        boolean compiles = compiles(out, System.getProperty("java.class.path"), List.of(out.resolve("Example.java")));
        Check.holds("the example compiles", compiles);
        if (!compiles) {
            return List.of();
        }
        try (URLClassLoader loader = new URLClassLoader(new URL[] {out.toUri().toURL()})) {
            return (List<?>) loader.loadClass("Example").getMethod("answers").invoke(null);
        }
    }

    private static boolean compiles(Path out, String classes, List<Path> sources) {
        List<String> arguments = new ArrayList<>(List.of("-encoding", "UTF-8", "-d", out.toString(), "-cp", classes,
                "-sourcepath", TESTS.toString()));
        for (Path source : sources) {
            arguments.add(source.toString());
        }
        return ToolProvider.getSystemJavaCompiler().run(null, null, null, arguments.toArray(new String[0])) == 0;
    }

    private static void refusals(String text) throws Exception {
        Matcher refused = REFUSED.matcher(text);
        int found = 0;
        while (refused.find()) {
            Check.due("README: " + refused.group(1), Long.parseLong(refused.group(2)),
                    NamedWind.class.getField(refused.group(1)).getInt(null));
            found++;
        }
        Check.due("refusals told", found, 4);
    }

    private static void commands(Path work) throws Exception {
        for (List<String> block : blocks("sh")) {
            if (block.equals(List.of(".ci/run"))) {
                // It runs this very test, so it is not run once more.
                Check.holds(".ci/run can be run", Files.isExecutable(Path.of(".ci/run")));
            } else {
                ProcessBuilder shell = new ProcessBuilder("bash", "-e", "-c", String.join("\n", block));
                shell.environment().put("TMPDIR", work.toString());
                Check.due("exit code of " + block, ends(start(shell, work.resolve("told"))), 0);
            }
        }
    }

    /** Each test that there is has one row, and what the rows say of promises is what the tests say. */
    private static void table() throws IOException {
        Set<String> rows = new TreeSet<>();
        Set<Integer> promises = new TreeSet<>();
        for (String line : Files.readAllLines(README)) {
            Matcher row = ROW.matcher(line);
            if (row.matches()) {
                Check.holds("one row of " + row.group(1), rows.add(row.group(1)));
                Matcher told = PROMISES.matcher(row.group(2));
                if (told.matches()) {
                    promises.addAll(numbers(told.group(1)));
                    String says = "/** Promises " + told.group(1);
                    Check.holds(row.group(1) + " says: " + says, tellsOfItself(row.group(1), says));
                }
            }
        }
        Check.holds("the table has " + rows + ", there are " + testNames(), rows.equals(testNames()));
        Check.holds("promises of the table: " + promises, promises.equals(numbers("1 to " + PROMISES_TOLD)));
    }

    private static boolean tellsOfItself(String test, String says) throws IOException {
        Path source = TESTS.resolve(test + ".java");
        return Files.exists(source)
                && Files.readAllLines(source).stream().anyMatch(line -> line.matches(Pattern.quote(says) + "[:,] .*"));
    }

    /** The numbers of a text as '1 to 7 and 18'. */
    private static Set<Integer> numbers(String text) {
        Set<Integer> all = new TreeSet<>();
        for (String part : text.split(" and |, ")) {
            String[] ends = part.split(" to ");
            int last = Integer.parseInt(ends[ends.length - 1]);
            for (int number = Integer.parseInt(ends[0]); number <= last; number++) {
                all.add(number);
            }
        }
        return all;
    }

    private static Set<String> testNames() throws IOException {
        try (Stream<Path> files = Files.list(TESTS)) {
            return files.map(file -> file.getFileName().toString()).filter(name -> name.endsWith("Test.java"))
                    .map(name -> name.replace(".java", "")).collect(Collectors.toCollection(TreeSet::new));
        }
    }

    /** Beside a class that answers 7 to everything each test prints what is wrong and ends with exit code 1. */
    private static void wrongAnswersAreTold(Path work) throws Exception {
        Path out = Files.createDirectory(work.resolve("sevens"));
        Files.writeString(out.resolve("NamedWind.java"), sevens());
        Set<String> tests = testNames();
        // It would ask itself.
        tests.remove("ReadmeTest");
        List<Path> sources = new ArrayList<>(List.of(out.resolve("NamedWind.java")));
        tests.forEach(test -> sources.add(TESTS.resolve(test + ".java")));
        boolean compiles = compiles(out, out.toString(), sources);
        Check.holds("all tests compile beside a wrong class", compiles);
        for (String test : tests) {
            Path told = work.resolve(test);
            int code = ends(start(new ProcessBuilder("java", "-cp", out.toString(), test), told));
            Check.due(test + ": exit code when answers are wrong", code, 1);
            List<String> lines = Files.readAllLines(told);
            Matcher last = LAST_LINE.matcher(lines.isEmpty() ? "" : lines.get(lines.size() - 1));
            long wrong = lines.stream().filter(line -> line.contains(" answered ")).count();
            Check.due(test + ": lines of wrong answers", last.matches() ? Long.parseLong(last.group(2)) : -1, wrong);
        }
    }

    /** The source of a class with the face of NamedWind that is wrong nearly everywhere. */
    private static String sevens() {
        StringBuilder source = new StringBuilder("public final class NamedWind {\n"
                + "public static final int NONE = 7, UNKNOWN = 7, OUTSIDE = 7, STATE = 7, FULL = 7;\n");
        for (Method method : NamedWind.class.getDeclaredMethods()) {
            if (Modifier.isPublic(method.getModifiers())) {
                source.append("public ").append(method.getReturnType()).append(' ').append(method.getName()).append('(');
                Class<?>[] types = method.getParameterTypes();
                for (int i = 0; i < types.length; i++) {
                    source.append(i == 0 ? "" : ", ").append(types[i]).append(" x").append(i);
                }
                source.append(") { return 7; }\n");
            }
        }
        return source.append("}\n").toString();
    }

    private static Process start(ProcessBuilder command, Path told) throws IOException {
        return command.redirectErrorStream(true).redirectOutput(told.toFile()).start();
    }

    private static int ends(Process process) throws InterruptedException {
        if (!process.waitFor(LONGEST_WAIT, TimeUnit.SECONDS)) {
            process.destroyForcibly();
            return -1;
        }
        return process.exitValue();
    }

    private static void removeAll(Path work) throws IOException {
        try (Stream<Path> files = Files.walk(work)) {
            files.sorted(Comparator.reverseOrder()).forEach(ReadmeTest::remove);
        }
    }

    private static void remove(Path file) {
        try {
            Files.delete(file);
        } catch (IOException e) {
            throw new UncheckedIOException(e);
        }
    }
}
