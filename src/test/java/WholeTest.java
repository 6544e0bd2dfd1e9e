import java.io.IOException;
import java.lang.reflect.Constructor;
import java.lang.reflect.Field;
import java.lang.reflect.Method;
import java.lang.reflect.Modifier;
import java.nio.file.Files;
import java.nio.file.Path;
import java.util.ArrayList;
import java.util.LinkedHashMap;
import java.util.LinkedHashSet;
import java.util.List;
import java.util.Map;
import java.util.Set;
import java.util.TreeSet;
import java.util.regex.Matcher;
import java.util.regex.Pattern;

/** The lines of the document ahead of its terms: what it is, in one run of calls, and the public face, as it is read there. */
public final class WholeTest {
    private static final Pattern CONSTANT = Pattern.compile("([A-Z_]+) = (-?\\d+)");
    private static final Pattern METHOD = Pattern.compile("public int (\\w+)\\(([^)]*)\\)");

    private static final List<String> FACE = block(Doc.SECTIONS.get("The public face"));

    public static void main(String[] args) throws IOException {
        whatItIs();
        objectsOnTheirOwn();
        theClass();
        constants();
        constructor();
        methods();
        methodsInTheProgram();
        headsOfPromises();
        partsOfTheInterface();
        Due.close();
    }

    // -- what it is

    private static void whatItIs() {
        AnchoredNotes x = Sheets.empty();
        passagesAreEdited(x);
        partedAndOrphaned(x);
        repliesAndMargin(x);
        whatIf(x);
        textsUndoAndSlots(x);
    }

    private static void stands(AnchoredNotes x, int note, int first, int last) {
        Due.is("the first place of note " + note, x.of(note, 1), first);
        Due.is("the last place of note " + note, x.of(note, 2), last);
    }

    private static void passagesAreEdited(AnchoredNotes x) {
        Doc.sentence("What it is", "Margin notes that are anchored to passages and stay with them as the passages are edited: letters that are written, erased and moved");
        Due.append(x, "abcdefgh");
        Due.is("note(2, 4)", x.note(2, 4), 0);
        stands(x, 0, 2, 4);
        Due.is("written ahead of it", x.write(0, 25), 9);
        stands(x, 0, 3, 5);
        Due.is("erased ahead of it", x.erase(0, 1), 0);
        stands(x, 0, 1, 3);
        Due.is("moved behind all", x.move(1, 3, 4), 0);
        stands(x, 0, 4, 6);
        Due.looks(x, "bfghcde");
    }

    private static void partedAndOrphaned(AnchoredNotes x) {
        Doc.sentence("What it is", "notes that remember their letters and what stood around them");
        Due.holds("its words", Due.words(x, 0).equals("cde"));
        Doc.sentence("What it is", "pieces of a passage that was parted");
        Due.is("written within it", x.write(5, 25), 8);
        Due.is("its pieces", x.of(0, 5), 2);
        stands(x, 0, 6, 7);
        Doc.sentence("What it is", "notes that are orphaned and reclaimed by their words");
        Due.is("all its letters are erased", x.erase(4, 7), 1);
        Due.is("it is an orphan", x.of(0, 0), 1);
        Due.append(x, "cdebcdefg");
        Due.looks(x, "bfghcdebcdefg");
        // It remembers ab ahead and fgh behind: b, f and g are met at 8, none of them at 4.
        Due.is("its likeness", x.could(0, 1), 3);
        Due.is("reclaimed where its words have their neighbours", x.reclaim(0), 8);
        stands(x, 0, 8, 10);
    }

    private static void repliesAndMargin(AnchoredNotes x) {
        Doc.sentence("What it is", "replies to notes and to replies, a margin with lines, room and leaders");
        Due.is("a reply to the note", x.reply(0), 1);
        Due.is("a reply to the reply", x.reply(1), 2);
        stands(x, 2, 8, 10);
        Due.is("WIDTH was", x.set(1, 4), 12);
        Due.is("ROOM was", x.set(2, 1), 2);
        Due.is("a note to the same passage", x.note(8, 10), 3);
        Due.is("the line of the first", x.printed(0, 0), 2);
        Due.is("no room for the second", x.printed(3, 0), 3);
        Due.is("its leader", x.printed(3, 1), 1);
    }

    private static void whatIf(AnchoredNotes x) {
        Doc.sentence("What it is", "who would be orphaned, where an orphan could stand again");
        Due.is("orphansIf(7, 11)", x.orphansIf(7, 11), 1 | 8);
        Due.is("orphansIf(7, 9)", x.orphansIf(7, 9), 0);
        Due.is("erase(7, 11)", x.erase(7, 11), 2);
        Due.is("could(0, 0)", x.could(0, 0), 4);
        Due.is("could(3, 2)", x.could(3, 2), 1);
        Due.looks(x, "bfghcdeg");
    }

    private static void textsUndoAndSlots(AnchoredNotes x) {
        Doc.sentence("What it is", "edits that are read from texts, undo, and saved states.");
        Due.is("save(0)", x.save(0), 8);
        Due.is("orders", Due.carryOut(x, "c3;+0=cde;-0-0;m0-1>2;x0"), 5);
        Due.looks(x, "bfdeghcdeg");
        Due.is("one note is left", x.count(1), 1);
        stands(x, 0, 6, 8);
        Due.is("undo()", x.undo(), 5);
        Due.looks(x, "bfghcdeg");
        Due.is("all notes are there again", x.count(1), 4);
        Due.is("erase(0, 7)", x.erase(0, 7), 0);
        Due.is("restore(0)", x.restore(0), 8);
        Due.looks(x, "bfghcdeg");
    }

    /** No call is answered by what another object was told. */
    private static void objectsOnTheirOwn() {
        Due.about("objects that are there at the same time");
        AnchoredNotes x = Sheets.busy();
        AnchoredNotes y = Sheets.full();
        AnchoredNotes z = Sheets.empty();
        Due.holds("the first", Same.look(x).equals(Same.look(Sheets.busy())));
        Due.holds("the second", Same.look(y).equals(Same.look(Sheets.full())));
        Due.holds("the third", Same.look(z).equals(Same.look(Sheets.empty())));
    }

    // -- the public face

    private static List<String> block(String section) {
        String code = section.substring(section.indexOf("```java") + 7, section.lastIndexOf("```"));
        return code.lines().map(String::strip).filter(line -> !line.isEmpty()).toList();
    }

    private static void theClass() {
        Due.about("The public face");
        Due.holds("its first line", FACE.get(0).equals("public final class AnchoredNotes {"));
        Class<?> face = AnchoredNotes.class;
        Due.is("public and final", face.getModifiers(), Modifier.PUBLIC | Modifier.FINAL);
        Due.holds("no package", face.getPackageName().isEmpty());
        Due.holds("no class above it, no interface", face.getSuperclass() == Object.class && face.getInterfaces().length == 0);
        for (Class<?> inside : face.getDeclaredClasses()) {
            int kinds = inside.getModifiers();
            Due.holds(inside + " is static, and neither public nor protected",
                Modifier.isStatic(kinds) && !Modifier.isPublic(kinds) && !Modifier.isProtected(kinds));
        }
    }

    /** The constants of a line as "NAME = value". */
    private static Set<String> constantsOf(List<String> lines) {
        Set<String> constants = new TreeSet<>();
        for (String line : lines) {
            Matcher matcher = CONSTANT.matcher(line);
            while (matcher.find()) {
                constants.add(matcher.group());
            }
        }
        return constants;
    }

    private static void constants() throws IOException {
        Set<String> there = new TreeSet<>();
        for (Field field : AnchoredNotes.class.getDeclaredFields()) {
            if (!Modifier.isPrivate(field.getModifiers())) {
                boolean plain = Modifier.toString(field.getModifiers()).equals("public static final") && field.getType() == int.class;
                Due.holds("public static final int: " + field, plain);
                there.add(field.getName() + " = " + valueOf(field));
            }
        }
        Due.holds("the constants are " + there, constantsOf(FACE).equals(there) && there.size() == 9);
        List<String> said = Doc.SECTIONS.get("Texts").lines().filter(line -> line.matches("(The constants: )?`[A-Z].*")).toList();
        Due.holds("the terms say the same of them", said.size() == 2 && constantsOf(said).equals(there));
    }

    private static int valueOf(Field field) throws IOException {
        try {
            return field.getInt(null);
        } catch (IllegalAccessException e) {
            throw new IOException(e);
        }
    }

    private static void constructor() {
        Constructor<?>[] constructors = AnchoredNotes.class.getDeclaredConstructors();
        Due.holds("the face names it", FACE.contains("public AnchoredNotes();"));
        Due.is("constructors", constructors.length, 1);
        Due.is("its parameters", constructors[0].getParameterCount(), 0);
        Due.holds("it is public", Modifier.isPublic(constructors[0].getModifiers()));
        Due.is("exceptions that it names", constructors[0].getExceptionTypes().length, 0);
    }

    /** The faces of methods that are written in some lines, by their names. */
    private static Map<String, String> methodsOf(List<String> lines) {
        Map<String, String> methods = new LinkedHashMap<>();
        for (String line : lines) {
            Matcher matcher = METHOD.matcher(line);
            if (matcher.find()) {
                methods.put(matcher.group(1), matcher.group());
            }
        }
        return methods;
    }

    private static String typesOf(Method method) {
        List<String> types = new ArrayList<>();
        for (Class<?> type : method.getParameterTypes()) {
            types.add(type.getName());
        }
        return Modifier.toString(method.getModifiers()) + " " + method.getReturnType() + " " + method.getName() + "(" + String.join(", ", types) + ")";
    }

    private static void methods() {
        Set<String> due = new TreeSet<>();
        for (String face : methodsOf(FACE).values()) {
            due.add(face.replaceAll("(int|long) \\w+(?=[,)])", "$1"));
        }
        Set<String> there = new TreeSet<>();
        for (Method method : AnchoredNotes.class.getDeclaredMethods()) {
            if (!Modifier.isPrivate(method.getModifiers())) {
                there.add(typesOf(method));
                Due.is("exceptions that " + method.getName() + " names", method.getExceptionTypes().length, 0);
            }
        }
        Due.is("methods", due.size(), 24);
        Due.holds("the methods are " + there, due.equals(there));
        Due.is("lines of the face", FACE.size(), 1 + 2 + 1 + 24 + 1);
    }

    private static List<String> program() throws IOException {
        return Files.readAllLines(Path.of("src/main/java/AnchoredNotes.java"));
    }

    private static void methodsInTheProgram() throws IOException {
        Due.about("The public face");
        List<String> faces = new ArrayList<>(methodsOf(FACE).values());
        List<String> there = new ArrayList<>(methodsOf(program().stream().filter(line -> line.startsWith("    public ")).toList()).values());
        Due.holds("the same names of parameters, in the same order: " + there, faces.equals(there));
    }

    /** Each promise names the constructor or a method as the face does, and none is without a promise. */
    private static void headsOfPromises() {
        Map<String, String> faces = methodsOf(FACE);
        Set<String> promised = new LinkedHashSet<>();
        for (int promise = 1; promise <= 25; promise++) {
            Due.about("Promise " + promise);
            String text = Doc.SECTIONS.getOrDefault("Promise " + promise, "");
            Matcher matcher = Pattern.compile("(?m)^## Promise \\d+: (.*)\n\n`([^`]*)`: ").matcher(text);
            if (!matcher.find()) {
                Due.holds("it has a head and a face", false);
            } else if (promise == 1) {
                Due.holds("the constructor", matcher.group(2).equals("AnchoredNotes()"));
            } else {
                promised.add(matcher.group(1));
                Due.holds("its face", ("public " + matcher.group(2)).equals(faces.get(matcher.group(1))));
            }
        }
        Due.about("The public face");
        Due.holds("the promises are in the order of the face", new ArrayList<>(promised).equals(new ArrayList<>(faces.keySet())));
    }

    /** "Ahead of the calls .. the interface says", of which the program's comments are held to say the same. */
    private static void partsOfTheInterface() throws IOException {
        Due.about("Texts, Ahead of the calls");
        Map<String, String> due = new LinkedHashMap<>();
        Matcher said = Pattern.compile("Ahead of the calls (.*) the interface says: ---- (.*)\\.\n").matcher(Doc.SECTIONS.get("Texts"));
        while (said.find()) {
            due.put(said.group(2), said.group(1).replaceAll("[` ]", ""));
        }
        Map<String, String> there = new LinkedHashMap<>();
        String part = "";
        for (String line : program()) {
            Matcher method = METHOD.matcher(line);
            if (line.startsWith("    // ---- ")) {
                part = line.substring(12);
            } else if (line.startsWith("    public ") && method.find()) {
                there.merge(part, method.group(1), (names, name) -> names + "," + name);
            }
        }
        Due.is("parts", due.size(), 6);
        Due.holds("the parts are " + there, new ArrayList<>(due.entrySet()).equals(new ArrayList<>(there.entrySet())));
    }
}
