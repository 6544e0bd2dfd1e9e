/** Promises 1 to 5 and 10: a new object, set, write, erase, move, letter. */
public final class TextTest {
    public static void main(String[] args) {
        newObject();
        set();
        write();
        erase();
        eraseOrphans();
        move();
        moveParts();
        letter();
        Due.close();
    }

    private static void newObject() {
        AnchoredNotes x = new AnchoredNotes();
        int[] counts = {0, 0, 0, 0, 0, 0, -6, 0, 3, 12, 2, 0, 0};
        for (int what = 0; what < counts.length; what++) {
            Due.is("count(" + what + ") of a new object", x.count(what), counts[what]);
        }
        Due.is("letter(0)", x.letter(0), -1);
        Due.is("of(0, 0)", x.of(0, 0), -1);
        Due.is("fault()", x.fault(), 0);
        Due.is("undo()", x.undo(), -5);
        Due.is("restore(0)", x.restore(0), -5);
        Due.is("restore(1)", x.restore(1), -5);
    }

    private static void set() {
        AnchoredNotes x = new AnchoredNotes();
        int[] least = {0, 1, 1};
        int[] most = {8, 60, 9};
        int[] first = {3, 12, 2};
        for (int setting = 0; setting < 3; setting++) {
            Due.is("set below its range", x.set(setting, least[setting] - 1), -2);
            Due.is("set above its range", x.set(setting, most[setting] + 1), -2);
            Due.is("set far out", x.set(setting, Integer.MIN_VALUE), -2);
            Due.is("a setting after an error", x.count(8 + setting), first[setting]);
            Due.is("set to the least", x.set(setting, least[setting]), first[setting]);
            Due.is("the least", x.count(8 + setting), least[setting]);
            Due.is("set to the most", x.set(setting, most[setting]), least[setting]);
            Due.is("the most", x.count(8 + setting), most[setting]);
        }
        Due.is("only what succeeds is a change", x.count(12), 6);
        Due.is("set(-1, 1)", x.set(-1, 1), -2);
        Due.is("set(3, 1)", x.set(3, 1), -2);
        Due.is("set(MAX, 1)", x.set(Integer.MAX_VALUE, 1), -2);
    }

    private static void write() {
        AnchoredNotes x = new AnchoredNotes();
        Due.is("write(1, 0)", x.write(1, 0), -1);
        Due.is("write(-1, 0)", x.write(-1, 0), -1);
        Due.is("write(-1, 26): the place comes first", x.write(-1, 26), -1);
        Due.is("write(0, 26)", x.write(0, 26), -2);
        Due.is("write(0, -1)", x.write(0, -1), -2);
        Due.is("no change by errors", x.count(12), 0);
        Due.is("write(0, 25)", x.write(0, 25), 1);
        Due.is("write(0, 0)", x.write(0, 0), 2);
        Due.is("write(1, 1)", x.write(1, 1), 3);
        Due.is("write(3, 2)", x.write(3, 2), 4);
        Due.looks(x, "abzc");
        Due.is("changes", x.count(12), 4);
        for (int length = 4; length < 60; length++) {
            Due.is("write on", x.write(length, 5), length + 1);
        }
        Due.is("the 61st letter", x.write(60, 0), -4);
        Due.is("the 61st letter, far out", x.write(61, 0), -1);
        Due.is("the 61st letter, a wrong one", x.write(0, 26), -2);
        Due.is("letters", x.count(0), 60);
    }

    private static void erase() {
        AnchoredNotes x = Due.text("abcdef");
        Due.is("erase(0, 6)", x.erase(0, 6), -1);
        Due.is("erase(6, 6)", x.erase(6, 6), -1);
        Due.is("erase(-1, 0)", x.erase(-1, 0), -1);
        Due.is("erase(6, 0): the place comes first", x.erase(6, 0), -1);
        Due.is("erase(0, -1): the place comes first", x.erase(0, -1), -1);
        Due.is("erase(2, 1)", x.erase(2, 1), -2);
        Due.looks(x, "abcdef");
        Due.is("erase(1, 2)", x.erase(1, 2), 0);
        Due.looks(x, "adef");
        Due.is("erase(3, 3)", x.erase(3, 3), 0);
        Due.looks(x, "ade");
        Due.is("erase(0, 0)", x.erase(0, 0), 0);
        Due.looks(x, "de");
        Due.is("erase(0, 1)", x.erase(0, 1), 0);
        Due.is("letters", x.count(0), 0);
        Due.is("erase(0, 0) without letters", x.erase(0, 0), -1);
    }

    private static void eraseOrphans() {
        AnchoredNotes x = Due.text("abcdef");
        x.note(1, 2);
        x.note(2, 3);
        x.note(2, 2);
        x.reply(2);
        Due.is("erase one letter of three notes", x.erase(2, 2), 1);
        Due.is("the note that had it alone", x.of(2, 0), 1);
        Due.is("erase the letters of two notes", x.erase(1, 2), 2);
        Due.is("orphans: a reply to one is none", x.count(2), 3);
        Due.is("notes that are orphans already do not count", x.erase(0, 2), 0);
    }

    private static void move() {
        AnchoredNotes x = Due.text("abcdef");
        Due.is("move(0, 6, 0)", x.move(0, 6, 0), -1);
        Due.is("move(-1, 1, 0)", x.move(-1, 1, 0), -1);
        Due.is("move(6, 1, 9): the place comes first", x.move(6, 1, 9), -1);
        Due.is("move(3, 2, 0)", x.move(3, 2, 0), -2);
        Due.is("move(0, 1, 5)", x.move(0, 1, 5), -2);
        Due.is("move(0, 1, -1)", x.move(0, 1, -1), -2);
        Due.is("move(0, 5, 1)", x.move(0, 5, 1), -2);
        Due.looks(x, "abcdef");
        Due.is("move to the end", x.move(0, 1, 4), 0);
        Due.looks(x, "cdefab");
        Due.is("move to the start", x.move(4, 5, 0), 0);
        Due.looks(x, "abcdef");
        Due.is("move a little on", x.move(1, 3, 2), 0);
        Due.looks(x, "aebcdf");
        Due.is("move a little back", x.move(2, 4, 1), 0);
        Due.looks(x, "abcdef");
        Due.is("move to where it stands", x.move(2, 3, 2), 0);
        Due.looks(x, "abcdef");
        Due.is("that is a change, too", x.undo(), 5);
        Due.is("move the whole text", x.move(0, 5, 0), 0);
        Due.looks(x, "abcdef");
        Due.is("move one letter", x.move(5, 5, 0), 0);
        Due.looks(x, "fabcde");
    }

    private static void moveParts() {
        AnchoredNotes x = Due.text("abcdef");
        x.note(0, 2);
        x.note(3, 5);
        x.reply(0);
        Due.is("two notes parted; a reply is in no pieces", x.move(2, 3, 4), 2);
        Due.looks(x, "abefcd");
        Due.is("pieces of the first", x.of(0, 5), 2);
        Due.is("pieces of the second", x.of(1, 5), 2);
        Due.is("put together again, in another order", x.move(4, 4, 0), 0);
        Due.looks(x, "cabefd");
        Due.is("pieces then", x.of(0, 5), 1);
        Due.is("moved as a whole", x.move(0, 2, 3), 0);
        Due.looks(x, "efdcab");
        Due.is("the first place of the first", x.of(0, 1), 3);
        Due.is("the last place of the second", x.of(1, 2), 2);
    }

    private static void letter() {
        AnchoredNotes x = Due.text("az");
        Due.is("letter(0)", x.letter(0), 0);
        Due.is("letter(1)", x.letter(1), 25);
        Due.is("letter(2)", x.letter(2), -1);
        Due.is("letter(-1)", x.letter(-1), -1);
        Due.is("letter(MIN)", x.letter(Integer.MIN_VALUE), -1);
    }
}
