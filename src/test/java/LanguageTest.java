import java.io.IOException;
import java.nio.file.Files;
import java.nio.file.Path;
import java.util.HashSet;
import java.util.List;
import java.util.Set;
import java.util.regex.Matcher;
import java.util.regex.Pattern;

/** Rules of LANGUAGE.md that can be seen in the program's text. */
public final class LanguageTest {
    private static final Pattern METHOD = Pattern.compile("^( +)((?:private |public |static |final )*)\\w+(?:\\[\\])? (\\w+)\\(([^)]*)\\) \\{$");

    public static void main(String[] args) throws IOException {
        List<String> lines = Files.readAllLines(Path.of("src/main/java/AnchoredNotes.java"));
        StringBuilder code = new StringBuilder();
        for (String line : lines) {
            code.append(line.replaceFirst("^\\s*(//|/\\*\\*|\\*).*", "")).append('\n');
        }
        words(code.toString());
        statics(code.toString());
        face();
        methods(lines);
        Due.close();
    }

    private static void words(String code) {
        String[] banned = {"\\bthrows?\\b", "\\btry\\b", "\\bcatch\\b", "\\bfinally\\b", "\\bsynchronized\\b", "\\bassert\\b",
            "->", "::", "\\bimport\\b", "\\bpackage\\b", "\\bprotected\\b", "@", "\\bLambda", "Exact\\(", "\\bequals\\(",
            "\\bhashCode\\b", "\\btoString\\b", "\"", "%", "\\bcase [^:]*,"};
        for (String word : banned) {
            Due.holds("not in the program: " + word, !Pattern.compile(word).matcher(code).find());
        }
        int classes = 0;
        Matcher matcher = Pattern.compile("\\bclass \\w+").matcher(code);
        while (matcher.find()) {
            classes++;
        }
        Due.holds("at most twelve classes", classes <= 12);
    }

    private static void statics(String code) {
        for (String line : code.split("\n")) {
            if (line.contains("static ") && line.trim().endsWith(";")) {
                Due.holds("final: " + line.trim(), line.contains("static final int "));
            }
            if (line.contains(" class ") && line.startsWith("    ")) {
                Due.holds("static: " + line.trim(), line.startsWith("    private static final class "));
            }
        }
    }

    private static void face() {
        Set<String> names = new HashSet<>();
        for (var method : AnchoredNotes.class.getDeclaredMethods()) {
            if (java.lang.reflect.Modifier.isPublic(method.getModifiers())) {
                names.add(method.getName());
            } else {
                Due.holds("private: " + method, java.lang.reflect.Modifier.isPrivate(method.getModifiers()));
            }
        }
        Due.is("public methods", names.size(), 24);
        Set<String> fields = new HashSet<>();
        for (var field : AnchoredNotes.class.getDeclaredFields()) {
            if (!java.lang.reflect.Modifier.isPrivate(field.getModifiers())) {
                fields.add(field.getName());
            }
        }
        Due.holds("constants", fields.equals(Set.of("NO_SUCH", "BAD_VALUE", "BAD_TEXT", "TOO_MANY", "NOT_POSSIBLE",
            "NONE", "AROUND", "WIDTH", "ROOM")));
        for (Class<?> inner : AnchoredNotes.class.getDeclaredClasses()) {
            for (var method : inner.getDeclaredMethods()) {
                Due.holds("another name than a public method's: " + method, !names.contains(method.getName()));
            }
        }
    }

    private static void methods(List<String> lines) {
        int methods = 0;
        for (int start = 0; start < lines.size(); start++) {
            Matcher head = METHOD.matcher(lines.get(start));
            if (head.matches()) {
                methods++;
                int end = start;
                while (end < lines.size() && !lines.get(end).equals(head.group(1) + "}")) {
                    end++;
                }
                Due.holds(head.group(3) + " is short", end - start < 60);
                Due.holds(head.group(3) + " has few parameters", head.group(4).split(",").length <= 7);
            }
        }
        Due.holds("methods are found", methods > 60);
    }
}
