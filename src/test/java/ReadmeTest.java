import java.io.IOException;
import java.net.URL;
import java.net.URLClassLoader;
import java.nio.file.Files;
import java.nio.file.Path;
import java.util.ArrayList;
import java.util.Comparator;
import java.util.List;
import java.util.Set;
import java.util.TreeSet;
import java.util.regex.Matcher;
import java.util.regex.Pattern;
import java.util.stream.Stream;
import javax.tools.ToolProvider;

/** What README.md says: its examples are carried out, its tables are held against what is there. */
public final class ReadmeTest {
    private static final Pattern BLOCK = Pattern.compile("```java\n(.*?)```", Pattern.DOTALL);
    private static final Pattern EXAMPLE = Pattern.compile("(?:\\w+ (\\w+) = )?(.*?);(?:\\s+// (-?\\d+|AnchoredNotes\\.[A-Z_]+): .*)?");

    public static void main(String[] args) throws IOException, ReflectiveOperationException {
        String page = Files.readString(Path.of("README.md"));
        examples(page);
        methods(page);
        codes(page);
        tests(page);
        paths(page);
        Due.close();
    }

    private static void examples(String page) throws IOException, ReflectiveOperationException {
        List<String> lines = new ArrayList<>();
        Matcher block = BLOCK.matcher(page);
        while (block.find()) {
            lines.addAll(block.group(1).lines().toList());
        }
        List<String> told = new ArrayList<>();
        long[][] answers = carryOut(program(lines, told));
        Due.holds("examples are found", told.size() > 15 && answers.length == told.size());
        for (int example = 0; example < answers.length; example++) {
            Due.is("README.md: " + told.get(example), answers[example][0], answers[example][1]);
        }
    }

    /** A program that answers, for each line with an answer in its comment, what the line answers and what it is told to. */
    private static String program(List<String> lines, List<String> told) {
        StringBuilder program = new StringBuilder("public final class Example {\npublic static long[][] answers() {\n");
        StringBuilder answers = new StringBuilder("return new long[][] {");
        for (String line : lines) {
            Matcher example = EXAMPLE.matcher(line);
            if (!example.matches()) {
                Due.holds("README.md: an example or its answer cannot be read: " + line, false);
            } else if (example.group(3) == null) {
                program.append(line).append('\n');
            } else {
                String name = example.group(1) == null ? "answer" + told.size() : example.group(1);
                program.append("int ").append(name).append(" = ").append(example.group(2)).append(";\n");
                answers.append("{").append(name).append(", ").append(example.group(3)).append("}, ");
                told.add(line);
            }
        }
        return program.append(answers).append("};\n}\n}\n").toString();
    }

    private static long[][] carryOut(String program) throws IOException, ReflectiveOperationException {
        Path folder = Files.createTempDirectory("readme");
        try {
            Path file = Files.writeString(folder.resolve("Example.java"), program);
            String classes = System.getProperty("java.class.path");
            int code = ToolProvider.getSystemJavaCompiler().run(null, null, null, "-cp", classes, "-d", folder.toString(), file.toString());
            Due.is("the examples are compiled with", code, 0);
            if (code != 0) {
                return new long[0][];
            }
            try (URLClassLoader loader = new URLClassLoader(new URL[] {folder.toUri().toURL()})) {
                return (long[][]) loader.loadClass("Example").getMethod("answers").invoke(null);
            }
        } finally {
            remove(folder);
        }
    }

    private static void remove(Path folder) throws IOException {
        try (Stream<Path> all = Files.walk(folder)) {
            for (Path path : all.sorted(Comparator.reverseOrder()).toList()) {
                Files.delete(path);
            }
        }
    }

    /** What the page's tables have in their first columns, of such a form. */
    private static Set<String> column(String page, String form) {
        Set<String> names = new TreeSet<>();
        Matcher row = Pattern.compile("(?m)^\\| `(" + form + ")`").matcher(page);
        while (row.find()) {
            names.add(row.group(1));
        }
        return names;
    }

    private static void methods(String page) throws IOException {
        Set<String> there = new TreeSet<>();
        Matcher method = Pattern.compile("(?m)^    public int (\\w+\\([^)]*\\))").matcher(Files.readString(Path.of("src/main/java/AnchoredNotes.java")));
        while (method.find()) {
            there.add(method.group(1).replaceAll("(int|long) ", ""));
        }
        Due.is("methods", there.size(), 24);
        Due.holds("README.md tells these methods: " + there, column(page, "\\w+\\([^)]*\\)").equals(there));
    }

    private static void codes(String page) {
        Set<String> codes = new TreeSet<>();
        Matcher row = Pattern.compile("(?m)^\\| `([A-Z_]+)` \\((-\\d)\\)").matcher(page);
        while (row.find()) {
            codes.add(row.group(1) + " = " + row.group(2));
        }
        Matcher due = Pattern.compile("[A-Z_]+ = -\\d").matcher(Doc.SECTIONS.get("The public face"));
        Set<String> face = new TreeSet<>();
        while (due.find()) {
            face.add(due.group());
        }
        Due.is("codes", face.size(), 6);
        Due.holds("README.md tells these codes: " + face, codes.equals(face));
    }

    private static void tests(String page) throws IOException {
        Set<String> there = new TreeSet<>();
        try (Stream<Path> files = Files.list(Path.of("src/test/java"))) {
            for (Path file : files.toList()) {
                String name = file.getFileName().toString();
                if (name.endsWith("Test.java")) {
                    there.add(name.replace(".java", ""));
                }
            }
        }
        Due.holds("README.md tells these tests: " + there, column(page, "\\w+Test").equals(there));
    }

    private static void paths(String page) {
        for (String path : new String[] {".ci/run", "src/main/java/AnchoredNotes.java", "../shared/DOC.md", "../shared/LANGUAGE.md", "../shared/tests", "NOTES.md"}) {
            Due.holds("README.md names " + path, page.contains(path));
            Due.holds(path + " is there", Files.exists(Path.of(path)));
        }
        Due.holds(".ci/run can be run", Files.isExecutable(Path.of(".ci/run")));
    }
}
