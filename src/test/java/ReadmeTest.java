import java.io.ByteArrayOutputStream;
import java.io.IOException;
import java.net.URL;
import java.net.URLClassLoader;
import java.nio.file.Files;
import java.nio.file.Path;
import java.util.ArrayList;
import java.util.Comparator;
import java.util.List;
import java.util.Set;
import java.util.TreeSet;
import java.util.regex.Matcher;
import java.util.regex.Pattern;
import java.util.stream.Stream;
import javax.tools.ToolProvider;

/**
 * README.md: what it shows as an example is what the class answers, each call of the face is shown and stands
 * in its table with the refusals that the document names, and each test of the project is named.
 */
public final class ReadmeTest {
    private static final Path README = Path.of("README.md");
    private static final Path DOCUMENT = Path.of("../shared/DOC.md");
    private static final Path TESTS = Path.of("src/test/java");
    private static final Pattern BLOCK = Pattern.compile("(?s)```java\n(.*?)```");
    private static final Pattern SHOWN = Pattern.compile("(\\S.*);\\s+// (-?\\d+|[A-Z]+)(?::.*)?");
    private static final Pattern PROMISE =
        Pattern.compile("(?s)## Promise \\d+: (\\w+)\n\n`\\w+ \\w+\\(([^)]*)\\)`:(.*?)(?=\n## |$)");
    private static final Pattern REFUSAL = Pattern.compile("\\b(UNKNOWN|OUTSIDE|NOT|FULL)\\b");
    private static final String NEW_OBJECT = "WordBridges x = new WordBridges();";
    private static final int CALLS = 27;

    private static final Check check = new Check("ReadmeTest");

    /** A call as README.md shows it, and the answer behind it. */
    private record Shown(String call, String answer) { }

    public static void main(String[] args) throws Exception {
        String readme = Files.readString(README);
        String document = Files.readString(DOCUMENT);
        StringBuilder functions = new StringBuilder();
        List<Shown> shown = shown(readme, functions);
        check.holds("calls are shown", shown.size() > CALLS);
        compare(shown, answers(functions.toString(), shown));
        calls(readme, document, shown);
        testsAreNamed(readme);
        check.end();
    }

    /** All lines of the examples; a block that begins with a function of its own goes to the functions. */
    private static List<Shown> shown(String readme, StringBuilder functions) {
        List<Shown> all = new ArrayList<>();
        Matcher block = BLOCK.matcher(readme);
        while (block.find()) {
            if (block.group(1).startsWith("static ")) {
                functions.append(block.group(1));
                continue;
            }
            for (String line : block.group(1).split("\n")) {
                Matcher told = SHOWN.matcher(line);
                boolean answered = told.matches();
                check.holds("an answer stands behind '" + line + "'", answered || line.equals(NEW_OBJECT));
                if (answered) all.add(new Shown(told.group(1), told.group(2)));
            }
        }
        return all;
    }

    /** Compiles what is shown, as it stands, and makes all its calls on one object. */
    private static long[] answers(String functions, List<Shown> shown) throws Exception {
        StringBuilder source = new StringBuilder("public final class ReadmeRun {\n" + functions);
        source.append("public static long[] run() {\n").append(NEW_OBJECT).append("\nreturn new long[] {\n");
        for (Shown one : shown) source.append(one.call()).append(",\n");
        source.append("};\n}\n}\n");
        Path room = Files.createTempDirectory("readme");
        try {
            Path file = Files.writeString(room.resolve("ReadmeRun.java"), source);
            ByteArrayOutputStream faults = new ByteArrayOutputStream();
            int ended = ToolProvider.getSystemJavaCompiler().run(null, faults, faults,
                "-cp", System.getProperty("java.class.path"), "-d", room.toString(), file.toString());
            check.due("compiling what README.md shows: " + faults, ended, 0);
            if (ended != 0) return new long[0];
            try (URLClassLoader loader = new URLClassLoader(new URL[] {room.toUri().toURL()})) {
                return (long[]) loader.loadClass("ReadmeRun").getMethod("run").invoke(null);
            }
        } finally {
            remove(room);
        }
    }

    private static void remove(Path room) throws IOException {
        List<Path> files;
        try (Stream<Path> found = Files.walk(room)) {
            files = found.sorted(Comparator.reverseOrder()).toList();
        }
        for (Path file : files) Files.delete(file);
    }

    private static void compare(List<Shown> shown, long[] answers) throws ReflectiveOperationException {
        check.due("answers", answers.length, shown.size());
        for (int k = 0; k < answers.length && k < shown.size(); k++) {
            String told = shown.get(k).answer();
            boolean named = Character.isLetter(told.charAt(0));
            long want = named ? WordBridges.class.getField(told).getInt(null) : Long.parseLong(told);
            check.due(shown.get(k).call(), answers[k], want);
        }
    }

    /** Each call of the document is shown, and has a row that names its arguments and its refusals. */
    private static void calls(String readme, String document, List<Shown> shown) {
        int calls = 0;
        Matcher promise = PROMISE.matcher(document);
        while (promise.find()) {
            calls++;
            String name = promise.group(1);
            String head = name + "(" + promise.group(2).replaceAll("(int|long|boolean) ", "") + ")";
            check.holds(name + " is shown", shown.stream().anyMatch(one -> one.call().startsWith("x." + name + "(")));
            Matcher row = Pattern.compile("(?m)^\\| `" + Pattern.quote(head) + "` \\| (.+) \\|(.*)\\|$").matcher(readme);
            boolean told = row.find();
            check.holds(head + " has a row", told);
            if (told) check.holds(head + " refuses as told", refusals(row.group(2)).equals(refusals(promise.group(3))));
        }
        check.due("calls of the document", calls, CALLS);
    }

    private static Set<String> refusals(String told) {
        Set<String> found = new TreeSet<>();
        Matcher refusal = REFUSAL.matcher(told);
        while (refusal.find()) found.add(refusal.group());
        return found;
    }

    private static void testsAreNamed(String readme) throws IOException {
        List<Path> files;
        try (Stream<Path> found = Files.list(TESTS)) {
            files = found.filter(file -> file.toString().endsWith("Test.java")).sorted().toList();
        }
        for (Path file : files) {
            String name = file.getFileName().toString().replace(".java", "");
            check.holds(name + " is named", Pattern.compile("\\b" + name + "\\b").matcher(readme).find());
        }
    }
}
