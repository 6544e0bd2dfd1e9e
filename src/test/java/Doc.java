import java.io.IOException;
import java.io.UncheckedIOException;
import java.nio.file.Files;
import java.nio.file.Path;
import java.util.LinkedHashMap;
import java.util.List;
import java.util.Map;

/** The document's sentences, by the head under which each stands. */
final class Doc {
    /** Heads are "CONVENTIONS", "Settings" .. "Texts" and "Promise 1" .. "Promise 25". */
    static final Map<String, String> SECTIONS = read();

    private Doc() {
    }

    /** To be called ahead of what holds the class against a sentence, word for word as it stands under the head. */
    static void sentence(String head, String words) {
        Due.about(head + ", \"" + words + "\"");
        Due.holds("the sentence stands in the document", SECTIONS.getOrDefault(head, "").contains(words));
    }

    private static Map<String, String> read() {
        Map<String, String> sections = new LinkedHashMap<>();
        String head = "";
        for (String line : lines()) {
            if (line.startsWith("#")) {
                head = line.replaceFirst("^#+ ", "").replaceFirst(":.*", "");
            } else if (line.startsWith("CONVENTIONS. ")) {
                head = "CONVENTIONS";
            }
            sections.merge(head, line + "\n", String::concat);
        }
        return sections;
    }

    private static List<String> lines() {
        try {
            return Files.readAllLines(Path.of("../shared/DOC.md"));
        } catch (IOException e) {
            throw new UncheckedIOException(e);
        }
    }
}
