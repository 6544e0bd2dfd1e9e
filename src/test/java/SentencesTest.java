import java.io.IOException;
import java.nio.file.Files;
import java.nio.file.Path;
import java.util.ArrayList;
import java.util.Arrays;
import java.util.HashMap;
import java.util.List;
import java.util.Map;
import java.util.regex.Matcher;
import java.util.regex.Pattern;
import java.util.stream.Stream;

/**
 * That no sentence which names a bound is without a test: what the tests quote by Doc.sentence() is taken out of the
 * document's terms and promises, and no number, error or other word of a bound may be left then.
 */
public final class SentencesTest {
    private static final Pattern QUOTE = Pattern.compile("Doc\\.sentence\\(\"((?:[^\"\\\\]|\\\\.)*)\", \"((?:[^\"\\\\]|\\\\.)*)\"\\);");
    private static final Pattern BOUND = Pattern.compile("\\d|NO_SUCH|BAD_|TOO_MANY|NOT_POSSIBLE|NONE|change|\\b(?:if|most|least|up to|or more|all|each"
        + "|none|no|nothing|empty|first|last|latest|oldest|only|end|ends|then|how many|fewer|above|below|longest|greatest|without|except|too)\\b");

    public static void main(String[] args) throws IOException {
        Map<String, List<String>> quotes = quotes();
        for (String head : Doc.SECTIONS.keySet()) {
            if (head.matches("Promise \\d+|CONVENTIONS|Settings|Text|Notes|To reclaim|Margin|Texts")) {
                Due.about(head);
                List<String> quoted = quotes.getOrDefault(head, List.of());
                Due.holds("it is quoted by a test", !quoted.isEmpty());
                bounds(plain(head), quoted);
            }
        }
        Due.close();
    }

    private static Map<String, List<String>> quotes() throws IOException {
        Map<String, List<String>> quotes = new HashMap<>();
        try (Stream<Path> files = Files.list(Path.of("src/test/java"))) {
            for (Path file : files.filter(path -> path.toString().endsWith("Test.java")).sorted().toList()) {
                Matcher matcher = QUOTE.matcher(Files.readString(file));
                while (matcher.find()) {
                    String words = matcher.group(2).replace("\\\"", "\"");
                    quotes.computeIfAbsent(matcher.group(1), head -> new ArrayList<>()).add(words);
                }
            }
        }
        return quotes;
    }

    /** Without the heads, the methods' faces, and what is said of the face alone. */
    private static String plain(String head) {
        return Doc.SECTIONS.get(head).replaceAll("(?m)^#.*$|^`[^`]*`: |^The constants: `[^`]*`: |^Ahead of the calls .* says: ---- .*$", "\n");
    }

    private static void bounds(String text, List<String> quoted) {
        boolean[] tested = new boolean[text.length()];
        for (String words : quoted) {
            for (int at = text.indexOf(words); at >= 0; at = text.indexOf(words, at + 1)) {
                Arrays.fill(tested, at, at + words.length(), true);
            }
        }
        StringBuilder left = new StringBuilder();
        for (int at = 0; at < tested.length; at++) {
            left.append(tested[at] ? '|' : text.charAt(at));
        }
        for (String part : left.toString().split("\\|+")) {
            Due.holds("a test quotes '" + part.strip() + "'", !BOUND.matcher(part).find());
        }
    }
}
