import java.io.IOException;
import java.lang.reflect.Field;
import java.lang.reflect.Method;
import java.lang.reflect.Modifier;
import java.nio.file.Files;
import java.nio.file.Path;
import java.util.ArrayList;
import java.util.HashSet;
import java.util.List;
import java.util.Set;
import java.util.regex.Matcher;
import java.util.regex.Pattern;

/** Rules of LANGUAGE.md that can be seen in the program's text. */
public final class LanguageTest {
    private static final Pattern METHOD = Pattern.compile("^( +)((?:private |public |static |final )*)\\w+(?:\\[\\])? (\\w+)\\(([^)]*)\\) \\{$");

    public static void main(String[] args) throws IOException {
        List<String> lines = Files.readAllLines(Path.of("src/main/java/AnchoredNotes.java"));
        StringBuilder code = new StringBuilder();
        for (String line : lines) {
            code.append(line.replaceFirst("^\\s*(//|/\\*\\*|\\*).*", "")).append('\n');
        }
        words(code.toString());
        statics(code.toString());
        library(code.toString());
        names();
        fields();
        methods(lines);
        Due.close();
    }

    private static void words(String code) {
        String[] banned = {"\\bthrows?\\b", "\\btry\\b", "\\bcatch\\b", "\\bfinally\\b", "\\bsynchronized\\b", "\\bassert\\b",
            "->", "::", "\\bimport\\b", "\\bpackage\\b", "\\bprotected\\b", "@", "\\bLambda", "Exact\\(", "\\bequals\\(",
            "\\bhashCode\\b", "\\btoString\\b", "\"", "%", "\\bcase [^:]*,"};
        for (String word : banned) {
            Due.holds("not in the program: " + word, !Pattern.compile(word).matcher(code).find());
        }
        int classes = 0;
        Matcher matcher = Pattern.compile("\\bclass \\w+").matcher(code);
        while (matcher.find()) {
            classes++;
        }
        Due.holds("at most twelve classes", classes <= 12);
    }

    private static void statics(String code) {
        for (String line : code.split("\n")) {
            if (line.contains("static ") && line.trim().endsWith(";")) {
                Due.holds("final: " + line.trim(), line.contains("static final int "));
            }
            if (line.contains(" class ") && line.startsWith("    ")) {
                Due.holds("static: " + line.trim(), line.startsWith("    private static final class "));
            }
        }
    }

    private static void names() {
        Set<String> names = new HashSet<>();
        for (Method method : AnchoredNotes.class.getDeclaredMethods()) {
            if (Modifier.isPublic(method.getModifiers())) {
                names.add(method.getName());
            }
        }
        Due.is("public methods", names.size(), 24);
        for (Class<?> type : classes()) {
            for (Method method : type.getDeclaredMethods()) {
                boolean face = Modifier.isPublic(method.getModifiers());
                Due.holds("another name than a public method's: " + method, face || !names.contains(method.getName()));
            }
        }
    }

    private static List<Class<?>> classes() {
        List<Class<?>> classes = new ArrayList<>(List.of(AnchoredNotes.class.getDeclaredClasses()));
        classes.add(AnchoredNotes.class);
        return classes;
    }

    private static void fields() {
        for (Class<?> type : classes()) {
            int fields = 0;
            for (Field field : type.getDeclaredFields()) {
                if (!Modifier.isStatic(field.getModifiers())) {
                    fields++;
                    Class<?> of = field.getType();
                    Class<?> one = of.isArray() ? of.getComponentType() : of;
                    Due.holds("a number, one of its own classes, or a row of these: " + field, one == int.class || classes().contains(one));
                }
            }
            Due.holds("few fields: " + type, fields <= 20);
        }
    }

    /** Each name with a capital is one of its own classes, or of the library that is listed. */
    private static void library(String code) {
        Set<String> known = new HashSet<>(Set.of("Integer", "Math", "System"));
        for (Class<?> type : classes()) {
            known.add(type.getSimpleName());
        }
        Matcher name = Pattern.compile("\\b[A-Z]\\w*[a-z]\\w*\\b").matcher(code);
        while (name.find()) {
            Due.holds("it may use " + name.group(), known.contains(name.group()));
        }
        Matcher call = Pattern.compile("\\b(?:Integer|Math|System)\\.\\w+").matcher(code);
        while (call.find()) {
            Due.holds("it may call " + call.group(), Set.of("Integer.bitCount", "Math.max", "Math.min", "System.arraycopy").contains(call.group()));
        }
        Due.holds("all signs are 1 to 127", code.chars().allMatch(sign -> sign >= 1 && sign <= 127));
    }

    private static void methods(List<String> lines) {
        int methods = 0;
        for (int start = 0; start < lines.size(); start++) {
            Matcher head = METHOD.matcher(lines.get(start));
            if (head.matches()) {
                methods++;
                int end = start;
                while (end < lines.size() && !lines.get(end).equals(head.group(1) + "}")) {
                    end++;
                }
                Due.holds(head.group(3) + " is short", end - start < 60);
                Due.holds(head.group(3) + " has few parameters", head.group(4).split(",").length <= 7);
            }
        }
        Due.holds("methods are found", methods > 60);
    }
}
