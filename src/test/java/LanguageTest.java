import java.io.IOException;
import java.nio.file.Files;
import java.nio.file.Path;
import java.util.List;
import java.util.regex.Matcher;
import java.util.regex.Pattern;

/** What of LANGUAGE.md can be seen in the source's text alone. */
public final class LanguageTest {
    private static final Path SOURCE = Path.of("src/main/java/WordBridges.java");
    private static final String[] RULED_OUT = {
        "throw", "throws", "try", "catch", "finally", "synchronized", "assert", "import", "package", "Object",
        "System.out", "Thread", "Exact", "numberOfTrailingZeros", "hashCode", "toString", "equals"};
    private static final int LONGEST_METHOD = 60;

    private static final Check check = new Check("LanguageTest");

    public static void main(String[] args) throws IOException {
        String source = Files.readString(SOURCE);
        String code = source.replaceAll("(?s)/\\*.*?\\*/", "").replaceAll("//[^\n]*", "");
        for (String word : RULED_OUT) {
            check.holds("no '" + word + "'", !Pattern.compile("\\b" + Pattern.quote(word) + "\\b").matcher(code).find());
        }
        check.holds("no lambda", !code.contains("->"));
        check.holds("no method reference", !code.contains("::"));
        check.holds("no while without a counter", !Pattern.compile("\\bwhile\\b").matcher(code).find());
        check.holds("ASCII alone", source.chars().allMatch(sign -> sign == '\n' || sign >= 32 && sign < 127));
        library(code);
        lengths(source);
        check.end();
    }

    private static void library(String code) {
        List<String> allowed = List.of("Long.bitCount", "Integer.bitCount", "Math.max", "Math.min");
        Matcher call = Pattern.compile("\\b[A-Z][A-Za-z]*\\.[a-z][A-Za-z]*").matcher(code);
        while (call.find()) check.holds("library: " + call.group(), allowed.contains(call.group()));
    }

    /** A method runs from a line that opens it to the next line with a brace alone at the same depth. */
    private static void lengths(String source) {
        String[] lines = source.split("\n");
        for (int k = 0; k < lines.length; k++) {
            Matcher head = Pattern.compile("^( +)(public|private).*\\) \\{$").matcher(lines[k]);
            if (!head.matches()) continue;
            int end = k + 1;
            while (end < lines.length && !lines[end].equals(head.group(1) + "}")) end++;
            check.holds("short: " + lines[k].trim(), end - k < LONGEST_METHOD);
        }
    }
}
