import java.io.IOException;
import java.nio.file.Files;
import java.nio.file.Path;
import java.util.ArrayList;
import java.util.Arrays;
import java.util.HashMap;
import java.util.List;
import java.util.Map;
import java.util.Set;
import java.util.regex.Matcher;
import java.util.regex.Pattern;
import java.util.stream.Stream;

/**
 * That no sentence of the document is without a test: what the tests quote by Doc.sentence() is taken out of it, and
 * no word may be left then. WholeTest holds the class against the public face, and against what is said of it elsewhere.
 */
public final class SentencesTest {
    private static final Pattern QUOTE = Pattern.compile("Doc\\.sentence\\(\"((?:[^\"\\\\]|\\\\.)*)\", \"((?:[^\"\\\\]|\\\\.)*)\"\\);");
    /** The title, the face, a head without words of its own, and what is free. */
    private static final Set<String> WITHOUT_QUOTES = Set.of("AnchoredNotes", "The public face", "Terms", "Not promised");
    private static final String FACES = "(?m)^#.*$|^CONVENTIONS\\. |^`[^`]*\\(.*\\)`: |^The constants: `[^`]*`: "
        + "|^Ahead of the calls .* says: ---- (?:(?:the text|notes|what there is|texts|undo, saving)\\.$)?";
    private static final String FREE = "; what later calls answer is free.";

    public static void main(String[] args) throws IOException {
        Map<String, List<String>> quotes = quotes();
        for (String head : Doc.SECTIONS.keySet()) {
            if (!WITHOUT_QUOTES.contains(head)) {
                Due.about(head);
                List<String> quoted = quotes.getOrDefault(head, List.of());
                Due.holds("it is quoted by a test", !quoted.isEmpty());
                nothingLeft(plain(head), quoted);
            }
        }
        Due.close();
    }

    private static Map<String, List<String>> quotes() throws IOException {
        Map<String, List<String>> quotes = new HashMap<>();
        try (Stream<Path> files = Files.list(Path.of("src/test/java"))) {
            for (Path file : files.filter(path -> path.toString().endsWith("Test.java")).sorted().toList()) {
                Matcher matcher = QUOTE.matcher(Files.readString(file));
                while (matcher.find()) {
                    String words = matcher.group(2).replace("\\\"", "\"");
                    quotes.computeIfAbsent(matcher.group(1), head -> new ArrayList<>()).add(words);
                }
            }
        }
        return quotes;
    }

    /** Without the heads, the methods' faces, and what is said to be free. */
    private static String plain(String head) {
        return Doc.SECTIONS.get(head).replaceAll(FACES, "\n").replace(FREE, "\n").replace("```text", "\n");
    }

    private static void nothingLeft(String text, List<String> quoted) {
        boolean[] tested = new boolean[text.length()];
        for (String words : quoted) {
            for (int at = text.indexOf(words); at >= 0; at = text.indexOf(words, at + 1)) {
                Arrays.fill(tested, at, at + words.length(), true);
            }
        }
        StringBuilder left = new StringBuilder();
        for (int at = 0; at < tested.length; at++) {
            left.append(tested[at] ? '|' : text.charAt(at));
        }
        for (String part : left.toString().split("\\|+")) {
            String words = part.replaceAll("\\W+", " ").strip();
            Due.holds("a test quotes '" + part.strip() + "'", words.isEmpty() || words.equals("and"));
        }
    }
}
