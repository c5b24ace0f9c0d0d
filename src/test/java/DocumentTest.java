import java.io.IOException;
import java.nio.file.Files;
import java.nio.file.Path;
import java.util.ArrayList;
import java.util.Comparator;
import java.util.List;
import java.util.regex.Matcher;
import java.util.regex.Pattern;
import java.util.stream.Stream;

/**
 * The tests of boundary cases tell by of() which sentence of the document they hold: that each stands there
 * under its heading, and that no sentence of a promise or of 'Terms' is left over.
 */
public final class DocumentTest {
    private static final Path DOCUMENT = Path.of("../shared/DOC.md");
    private static final Path TESTS = Path.of("src/test/java");
    private static final int PROMISES = 28;
    private static final Pattern OF = Pattern.compile("\\.of\\((-?\\d+), ((?:\"(?:[^\"\\\\]|\\\\.)*\"(?:\\s*\\+\\s*)?)+)\\);");
    private static final Pattern QUOTED = Pattern.compile("\"((?:[^\"\\\\]|\\\\.)*)\"");

    /** What names no case: how the document is to be read. */
    private static final String READING = "Words in capitals are told where they come first.";
    private static final String CALLS = "Ahead of the calls [^\\n]* the interface says: ---- [a-z]+\\.";

    private static final Check check = new Check("DocumentTest");

    private record Held(String test, int promise, String sentence) { }

    public static void main(String[] args) throws IOException {
        String document = Files.readString(DOCUMENT);
        List<Held> sentences = held();
        check.holds("sentences are held: " + sentences.size(), sentences.size() > PROMISES);
        for (Held held : sentences) {
            String part = part(document, Bounds.heading(held.promise()));
            check.holds(held.test() + ", " + held.promise() + ": the document has \"" + held.sentence() + "\"",
                !held.sentence().isEmpty() && part.contains(held.sentence()));
        }
        for (int promise = Bounds.TERMS; promise <= PROMISES; promise++) nothingLeft(document, promise, sentences);
        check.holds("no promise behind the last", part(document, Bounds.heading(PROMISES + 1)).isEmpty());
        check.end();
    }

    private static List<Held> held() throws IOException {
        List<Path> sources;
        try (Stream<Path> files = Files.list(TESTS)) {
            sources = files.filter(file -> file.toString().endsWith("Test.java")).sorted().toList();
        }
        List<Held> all = new ArrayList<>();
        for (Path source : sources) {
            Matcher of = OF.matcher(Files.readString(source));
            while (of.find()) {
                StringBuilder sentence = new StringBuilder();
                Matcher quoted = QUOTED.matcher(of.group(2));
                while (quoted.find()) sentence.append(quoted.group(1));
                all.add(new Held(source.getFileName().toString(), Integer.parseInt(of.group(1)), sentence.toString()));
            }
        }
        return all;
    }

    /** What stands under a heading, its white space made single blanks. */
    private static String part(String document, String heading) {
        int start = document.indexOf("## " + heading);
        if (start < 0) return "";
        int from = document.indexOf('\n', start);
        int end = document.indexOf("\n## ", from);
        String part = document.substring(from, end < 0 ? document.length() : end);
        return part.replaceAll(CALLS, "").replaceAll("\\s+", " ");
    }

    private static void nothingLeft(String document, int promise, List<Held> sentences) {
        String rest = part(document, Bounds.heading(promise)).replace(READING, "");
        if (promise > 0) rest = rest.replaceFirst("`[^`]*`:?", "");
        check.holds("promise " + promise + " is told", rest.trim().length() > 0);
        List<String> longestFirst = new ArrayList<>();
        for (Held held : sentences) {
            if (held.promise() == promise) longestFirst.add(held.sentence());
        }
        longestFirst.sort(Comparator.comparingInt(String::length).reversed());
        for (String sentence : longestFirst) rest = rest.replace(sentence, " ");
        String left = rest.replace("```text", "").replaceAll("[^A-Za-z]+", " ").trim();
        check.holds("promise " + promise + ", without a test: \"" + left + "\"", left.isEmpty());
    }
}
