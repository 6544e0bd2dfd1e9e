import java.util.function.Supplier;

/** The bounds of Settings, Text and promises 1 to 5 and 10: a new object, set, write, erase, move, letter. */
public final class TextBoundsTest {
    private static final int MIN = Integer.MIN_VALUE, MAX = Integer.MAX_VALUE;
    private static final int NO_SUCH = -1, BAD_VALUE = -2, TOO_MANY = -4, NOT_POSSIBLE = -5, NONE = -6;
    private static final int[] LEAST = {0, 1, 1}, MOST = {8, 60, 9}, FIRST = {3, 12, 2};

    public static void main(String[] args) {
        newIsEmpty();
        newIsItsOwn();
        rangesOfSettings();
        previousValue();
        noSuchSetting();
        valueOutOfRange();
        setIsAChange();
        mostLetters();
        looksOfLetters();
        lettersOfTheirOwn();
        placesToWriteAt();
        letterToWrite();
        lengthByWrite();
        noPlaceToWriteAt();
        wrongLetter();
        tooManyLetters();
        eraseOneOrAll();
        orphanedByErase();
        noPlaceToErase();
        eraseBackwards();
        moveOneOrAll();
        placesToMoveTo();
        partedByMove();
        noPlaceToMove();
        moveBackwardsOrTooFar();
        lettersOfTheText();
        letterAtTheEnds();
        noLetter();
        Due.close();
    }

    private static void noSet(Supplier<AnchoredNotes> made, int setting, int value) {
        Same.refused("set(" + setting + ", " + value + ")", made, x -> x.set(setting, value), BAD_VALUE);
    }

    private static void noWrite(Supplier<AnchoredNotes> made, int place, int letter, int error) {
        Same.refused("write(" + place + ", " + letter + ")", made, x -> x.write(place, letter), error);
    }

    private static void noErase(Supplier<AnchoredNotes> made, int from, int to, int error) {
        Same.refused("erase(" + from + ", " + to + ")", made, x -> x.erase(from, to), error);
    }

    private static void noMove(Supplier<AnchoredNotes> made, int from, int to, int place, int error) {
        Same.refused("move(" + from + ", " + to + ", " + place + ")", made, x -> x.move(from, to, place), error);
    }

    // -- promise 1

    private static void newIsEmpty() {
        Doc.sentence("Promise 1", "Creates an empty text without notes.");
        int[] counts = {0, 0, 0, 0, 0, 0, NONE, 0, 3, 12, 2, 0, 0};
        for (int what = 0; what < counts.length; what++) {
            Due.is("count(" + what + ")", Sheets.empty().count(what), counts[what]);
        }
        Due.is("letter(0)", Sheets.empty().letter(0), NO_SUCH);
        Due.is("at(0)", Sheets.empty().at(0), NO_SUCH);
        Due.is("of(0, 0)", Sheets.empty().of(0, 0), NO_SUCH);
        Due.is("erase(0, 0)", Sheets.empty().erase(0, 0), NO_SUCH);
        Due.is("note(0, 0)", Sheets.empty().note(0, 0), NO_SUCH);
        Due.is("reply(0)", Sheets.empty().reply(0), NO_SUCH);
        Due.is("leastRoom(0)", Sheets.empty().leastRoom(0), 1);
        Due.is("undo()", Sheets.empty().undo(), NOT_POSSIBLE);
        Due.is("restore(0)", Sheets.empty().restore(0), NOT_POSSIBLE);
        Due.is("restore(1)", Sheets.empty().restore(1), NOT_POSSIBLE);
    }

    private static void newIsItsOwn() {
        Doc.sentence("Promise 1", "Creates an empty text without notes.");
        AnchoredNotes other = Sheets.full();
        AnchoredNotes x = Sheets.empty();
        Due.holds("it is empty beside a full one", Same.look(x).equals(Same.look(new AnchoredNotes())));
        Due.is("write(0, 7)", x.write(0, 7), 1);
        Due.is("letters of the other one", other.count(0), 60);
        Due.is("the first letter of the other one", other.letter(0), 1);
    }

    // -- Settings, promise 2

    private static void rangesOfSettings() {
        Doc.sentence("Settings", "(In parentheses: range; first value.) AROUND (0 to 8; 3), WIDTH (1 to 60; 12), ROOM (1 to 9; 2).");
        for (int setting = 0; setting < 3; setting++) {
            int least = LEAST[setting];
            int most = MOST[setting];
            AnchoredNotes x = Sheets.empty();
            Due.is("the first value of " + setting, x.count(8 + setting), FIRST[setting]);
            Due.is("set " + setting + " to its least", x.set(setting, least), FIRST[setting]);
            Due.is("its least", x.count(8 + setting), least);
            Due.is("set " + setting + " to its most", x.set(setting, most), least);
            Due.is("its most", x.count(8 + setting), most);
            noSet(Sheets::empty, setting, least - 1);
            noSet(Sheets::empty, setting, most + 1);
        }
    }

    private static void previousValue() {
        Doc.sentence("Promise 2", "Returns the previous value");
        AnchoredNotes x = Sheets.empty();
        Due.is("set(0, 0)", x.set(0, 0), 3);
        Due.is("set(0, 8) after 0", x.set(0, 8), 0);
        Due.is("set(0, 8) once more", x.set(0, 8), 8);
        Due.is("set(1, 60)", x.set(1, 60), 12);
        Due.is("set(1, 1) after 60", x.set(1, 1), 60);
        Due.is("set(2, 9)", x.set(2, 9), 2);
        Due.is("set(2, 1) after 9", x.set(2, 1), 9);
        Due.is("set(0, 9), refused", x.set(0, 9), BAD_VALUE);
        Due.is("set(0, 3) after 8: what was refused was no value", x.set(0, 3), 8);
        Due.is("undo()", x.undo(), 5);
        Due.is("undo()", x.undo(), 4);
        Due.is("set(2, 5) after 9 again", x.set(2, 5), 9);
    }

    private static void noSuchSetting() {
        Doc.sentence("Promise 2", "BAD_VALUE if there is no such setting");
        Due.is("the first setting", Sheets.busy().set(0, 1), 2);
        Due.is("the last setting", Sheets.busy().set(2, 1), 2);
        for (int setting : new int[] {-1, 3, MIN, MAX}) {
            noSet(Sheets::busy, setting, 1);
            noSet(Sheets::empty, setting, 3);
        }
    }

    private static void valueOutOfRange() {
        Doc.sentence("Promise 2", "or the value is out of its range");
        for (int setting = 0; setting < 3; setting++) {
            for (int value : new int[] {MIN, LEAST[setting] - 1, MOST[setting] + 1, MAX}) {
                noSet(Sheets::busy, setting, value);
                noSet(Sheets::full, setting, value);
            }
        }
        // Each setting has a range of its own.
        Due.is("AROUND may be 0", Sheets.empty().set(0, 0), 3);
        Due.is("ROOM may be 9", Sheets.empty().set(2, 9), 2);
        Due.is("WIDTH may be 9", Sheets.empty().set(1, 9), 12);
        Due.is("WIDTH may be 10", Sheets.empty().set(1, 10), 12);
    }

    private static void setIsAChange() {
        Doc.sentence("Promise 2", "Changes a setting. This is a change.");
        AnchoredNotes x = Sheets.empty();
        Due.is("set(0, 3), nothing is different", x.set(0, 3), 3);
        Due.is("changes", x.count(12), 1);
        for (int change = 2; change <= 7; change++) {
            x.set(1, change);
        }
        Due.is("changes, no more than six", x.count(12), 6);
        Due.is("the other settings stay", x.count(8) * 100 + x.count(10), 302);
    }

    // -- Text, promise 3

    private static void mostLetters() {
        Doc.sentence("Text", "The text is up to 60 letters");
        AnchoredNotes x = Sheets.letters(59);
        Due.is("the 60th letter", x.write(59, 25), 60);
        Due.is("letter(59)", x.letter(59), 25);
        Due.is("letter(60)", x.letter(60), NO_SUCH);
        Due.is("the 61st letter", x.write(60, 25), TOO_MANY);
        Due.is("letters", x.count(0), 60);
        Due.looks(x, Sheets.alphabet(59) + "z");
    }

    private static void looksOfLetters() {
        Doc.sentence("Text", "a to z (0 to 25), at the places 0, 1, 2, .. (at first there is none)");
        AnchoredNotes x = Sheets.empty();
        Due.is("a letter ahead of the first", x.letter(0), NO_SUCH);
        for (int letter = 0; letter < 26; letter++) {
            Due.is("write " + letter, x.write(letter, letter), letter + 1);
        }
        for (int place = 0; place < 26; place++) {
            Due.is("letter(" + place + ")", x.letter(place), place);
        }
        Due.is("letter(26)", x.letter(26), NO_SUCH);
        AnchoredNotes y = Sheets.text("az");
        Due.is("a of a text", y.letter(0), 0);
        Due.is("z of a text", y.letter(1), 25);
    }

    private static void lettersOfTheirOwn() {
        Doc.sentence("Text", "Each letter that is written is a letter of its own: it stays the same one when it is moved, and is another one than each other letter, though they look alike.");
        AnchoredNotes x = Sheets.text("aaa");
        x.note(1, 1);
        x.move(1, 1, 0);
        Due.is("moved to the first place", x.at(0), 1);
        x.move(0, 0, 2);
        Due.is("moved to the last place", x.at(2), 1);
        Due.is("the places where it stood", x.at(0) + x.at(1), 0);
        x.write(2, 0);
        Due.is("one that looks alike at its place", x.at(2), 0);
        Due.is("it stands behind that", x.at(3), 1);
        x.erase(3, 3);
        x.write(3, 0);
        Due.is("erased, and one that looks alike written there", x.at(3), 0);
        Due.is("the note is an orphan", x.of(0, 0), 1);
    }

    private static void placesToWriteAt() {
        Doc.sentence("Promise 3", "`place`: 0 to the length of the text: where it stands then");
        AnchoredNotes x = Sheets.empty();
        Due.is("write(0, 0), nothing is there yet", x.write(0, 0), 1);
        Due.is("write(0, 1)", x.write(0, 1), 2);
        Due.looks(x, "ba");
        Due.is("write(1, 2)", x.write(1, 2), 3);
        Due.looks(x, "bca");
        Due.is("write(3, 3)", x.write(3, 3), 4);
        Due.looks(x, "bcad");
        Due.is("write(59, 0), the last place of all", Sheets.letters(59).write(59, 0), 60);
        Due.is("write(0, 0), the text is full then", Sheets.letters(59).write(0, 0), 60);
    }

    private static void letterToWrite() {
        Doc.sentence("Promise 3", "`letter`: 0 to 25");
        AnchoredNotes x = Sheets.empty();
        Due.is("write(0, 0)", x.write(0, 0), 1);
        Due.is("write(1, 25)", x.write(1, 25), 2);
        Due.looks(x, "az");
        noWrite(() -> Sheets.text("az"), 1, -1, BAD_VALUE);
        noWrite(() -> Sheets.text("az"), 1, 26, BAD_VALUE);
    }

    private static void lengthByWrite() {
        Doc.sentence("Promise 3", "Returns the length of the text then");
        AnchoredNotes x = Sheets.empty();
        for (int length = 0; length < 60; length++) {
            Due.is("write(" + length / 2 + ", 3)", x.write(length / 2, 3), length + 1);
        }
        Due.is("changes, no more than six", x.count(12), 6);
    }

    private static void noPlaceToWriteAt() {
        Doc.sentence("Promise 3", "NO_SUCH if place is out of range");
        for (int place : new int[] {MIN, -1, 1, 60, MAX}) {
            noWrite(Sheets::empty, place, 0, NO_SUCH);
        }
        for (int place : new int[] {MIN, -1, 8, MAX}) {
            noWrite(Sheets::busy, place, 0, NO_SUCH);
        }
        for (int place : new int[] {-1, 61}) {
            noWrite(Sheets::full, place, 0, NO_SUCH);
        }
        Due.is("write(7, 0) behind seven letters", Sheets.busy().write(7, 0), 8);
        Due.is("write(0, 0) ahead of them", Sheets.busy().write(0, 0), 8);
    }

    private static void wrongLetter() {
        Doc.sentence("Promise 3", "BAD_VALUE if letter is out of range");
        for (int letter : new int[] {MIN, -1, 26, 'a', MAX}) {
            noWrite(Sheets::empty, 0, letter, BAD_VALUE);
            noWrite(Sheets::busy, 7, letter, BAD_VALUE);
            noWrite(Sheets::full, 60, letter, BAD_VALUE);
        }
    }

    private static void tooManyLetters() {
        Doc.sentence("Promise 3", "TOO_MANY if there are 60 letters");
        for (int place : new int[] {0, 30, 59, 60}) {
            noWrite(Sheets::full, place, 0, TOO_MANY);
            noWrite(() -> Sheets.letters(60), place, 25, TOO_MANY);
        }
        AnchoredNotes x = Sheets.full();
        Due.is("erase one", x.erase(59, 59), 15);
        Due.is("there is room for one", x.write(59, 0), 60);
        Due.is("and for no second one", x.write(59, 0), TOO_MANY);
    }

    // -- promise 4

    private static void eraseOneOrAll() {
        Doc.sentence("Promise 4", "`to`: from or more");
        String[] left = {"bcdef", "acdef", "abdef", "abcef", "abcdf", "abcde"};
        for (int place = 0; place < left.length; place++) {
            AnchoredNotes x = Sheets.text("abcdef");
            Due.is("erase(" + place + ", " + place + ")", x.erase(place, place), 0);
            Due.looks(x, left[place]);
        }
        AnchoredNotes x = Sheets.text("abcdef");
        Due.is("erase(0, 4)", x.erase(0, 4), 0);
        Due.looks(x, "f");
        Due.is("erase(0, 0), the last letter", x.erase(0, 0), 0);
        Due.looks(x, "");
        AnchoredNotes y = Sheets.letters(60);
        Due.is("erase(0, 59)", y.erase(0, 59), 0);
        Due.is("letters", y.count(0), 0);
        Due.is("write(0, 0)", y.write(0, 0), 1);
        AnchoredNotes z = Sheets.letters(60);
        Due.is("erase(1, 59)", z.erase(1, 59), 0);
        Due.looks(z, "a");
    }

    private static void orphanedByErase() {
        Doc.sentence("Promise 4", "Returns how many notes are orphaned by that");
        Due.is("none there", Sheets.text("abc").erase(0, 2), 0);
        Due.is("all but the first letter of one", Sheets.notes("abc", 1, 0, 2).erase(1, 2), 0);
        Due.is("all but the last letter of one", Sheets.notes("abc", 1, 0, 2).erase(0, 1), 0);
        Due.is("all letters of one", Sheets.notes("abc", 1, 0, 2).erase(0, 2), 1);
        AnchoredNotes x = Sheets.notes("abc", 16, 1, 1);
        Due.is("all letters of 16", x.erase(1, 1), 16);
        Due.is("those that are orphans already", x.erase(0, 1), 0);
        Due.is("replies are not orphaned", Sheets.chain("abc", 16).erase(0, 2), 1);
    }

    private static void noPlaceToErase() {
        Doc.sentence("Promise 4", "NO_SUCH if there is no such place");
        noErase(Sheets::empty, 0, 0, NO_SUCH);
        int[][] wrong = {{-1, 0}, {-1, -1}, {7, 7}, {0, 7}, {6, 7}, {7, 8}, {MIN, 0}, {0, MAX}, {MIN, MAX}, {MAX, MAX}, {MIN, MIN}};
        for (int[] passage : wrong) {
            noErase(Sheets::busy, passage[0], passage[1], NO_SUCH);
        }
        noErase(Sheets::full, 60, 60, NO_SUCH);
        noErase(Sheets::full, 0, 60, NO_SUCH);
        noErase(Sheets::full, -1, 59, NO_SUCH);
        Due.is("erase(6, 6) of seven letters", Sheets.busy().erase(6, 6), 0);
        Due.is("erase(0, 6) of seven letters", Sheets.busy().erase(0, 6), 1);
        Due.is("erase(59, 59) of 60 letters", Sheets.full().erase(59, 59), 15);
        Due.is("erase(0, 59) of 60 letters", Sheets.full().erase(0, 59), 15);
    }

    private static void eraseBackwards() {
        Doc.sentence("Promise 4", "BAD_VALUE if to is below from");
        noErase(Sheets::busy, 1, 0, BAD_VALUE);
        noErase(Sheets::busy, 6, 5, BAD_VALUE);
        noErase(Sheets::busy, 6, 0, BAD_VALUE);
        noErase(Sheets::full, 59, 58, BAD_VALUE);
        // Of several errors the first one.
        noErase(Sheets::busy, 7, 6, NO_SUCH);
        noErase(Sheets::busy, 7, 0, NO_SUCH);
        noErase(Sheets::busy, MAX, 0, NO_SUCH);
        noErase(Sheets::busy, MAX, MIN, NO_SUCH);
    }

    // -- promise 5

    private static void moveOneOrAll() {
        Doc.sentence("Promise 5", "`to`: from or more");
        AnchoredNotes x = Sheets.text("a");
        Due.is("move(0, 0, 0), the only letter", x.move(0, 0, 0), 0);
        Due.looks(x, "a");
        AnchoredNotes y = Sheets.text("abcdef");
        Due.is("move(0, 0, 5)", y.move(0, 0, 5), 0);
        Due.looks(y, "bcdefa");
        Due.is("move(5, 5, 0)", y.move(5, 5, 0), 0);
        Due.looks(y, "abcdef");
        Due.is("move(0, 5, 0), the whole text", y.move(0, 5, 0), 0);
        Due.looks(y, "abcdef");
        AnchoredNotes z = Sheets.letters(60);
        Due.is("move(0, 0, 59)", z.move(0, 0, 59), 0);
        Due.looks(z, Sheets.alphabet(60).substring(1) + "a");
        Due.is("move(59, 59, 0)", z.move(59, 59, 0), 0);
        Due.is("move(0, 59, 0), 60 letters", z.move(0, 59, 0), 0);
        Due.looks(z, Sheets.alphabet(60));
    }

    private static void placesToMoveTo() {
        Doc.sentence("Promise 5", "`place`: 0 to the length of the text without them: where the first one stands then");
        String[] moved = {"bcadef", "abcdef", "adbcef", "adebcf", "adefbc"};
        for (int place = 0; place < moved.length; place++) {
            AnchoredNotes x = Sheets.text("abcdef");
            Due.is("move(1, 2, " + place + ")", x.move(1, 2, place), 0);
            Due.looks(x, moved[place]);
        }
        noMove(() -> Sheets.text("abcdef"), 1, 2, 5, BAD_VALUE);
        noMove(() -> Sheets.text("abcdef"), 1, 2, -1, BAD_VALUE);
        String[] all = {"efabcd", "aefbcd", "abefcd", "abcefd", "abcdef"};
        for (int place = 0; place < all.length; place++) {
            AnchoredNotes x = Sheets.text("abcdef");
            Due.is("move(4, 5, " + place + ")", x.move(4, 5, place), 0);
            Due.looks(x, all[place]);
        }
    }

    private static void partedByMove() {
        Doc.sentence("Promise 5", "Returns how many notes are in more than one piece then");
        Due.is("none there", Sheets.text("abc").move(0, 0, 2), 0);
        AnchoredNotes x = Sheets.notes("abc", 16, 0, 1);
        Due.is("16 in one piece", x.move(0, 1, 1), 0);
        Due.is("16 in two pieces", x.move(0, 0, 1), 16);
        Due.is("in two pieces as before", x.move(1, 1, 1), 16);
        Due.is("in one again, the other way round", x.move(2, 2, 0), 0);
        Due.is("orphans", x.erase(0, 1), 16);
        Due.is("orphans are in none", x.move(0, 0, 0), 0);
        Due.is("replies are in none", Sheets.chain("abc", 16).move(0, 0, 2), 0);
        AnchoredNotes y = Sheets.text("abcdef");
        y.note(0, 1);
        y.note(4, 5);
        y.write(1, 25);
        Due.is("one that was parted before counts, too", y.move(5, 5, 0), 2);
        Due.is("those that stay parted count", y.move(3, 4, 3), 2);
    }

    private static void noPlaceToMove() {
        Doc.sentence("Promise 5", "NO_SUCH if there is no such place");
        noMove(Sheets::empty, 0, 0, 0, NO_SUCH);
        int[][] wrong = {{-1, 0}, {-1, -1}, {7, 7}, {0, 7}, {6, 7}, {7, 0}, {MIN, 0}, {0, MAX}, {MIN, MAX}, {MAX, MAX}, {MAX, MIN}};
        for (int[] passage : wrong) {
            noMove(Sheets::busy, passage[0], passage[1], 0, NO_SUCH);
            // Of several errors the first one.
            noMove(Sheets::busy, passage[0], passage[1], -1, NO_SUCH);
            noMove(Sheets::busy, passage[0], passage[1], MAX, NO_SUCH);
        }
        noMove(Sheets::full, 60, 60, 0, NO_SUCH);
        noMove(Sheets::full, 0, 60, 0, NO_SUCH);
        Due.is("move(59, 59, 59) of 60 letters", Sheets.full().move(59, 59, 59), 0);
        Due.is("move(0, 59, 0) of 60 letters", Sheets.full().move(0, 59, 0), 0);
    }

    private static void moveBackwardsOrTooFar() {
        Doc.sentence("Promise 5", "BAD_VALUE if to is below from, or place is out of range");
        noMove(Sheets::busy, 1, 0, 0, BAD_VALUE);
        noMove(Sheets::busy, 6, 5, 0, BAD_VALUE);
        noMove(Sheets::busy, 6, 0, 8, BAD_VALUE);
        for (int place : new int[] {MIN, -1, 7, MAX}) {
            noMove(Sheets::busy, 2, 2, place, BAD_VALUE);
        }
        for (int place : new int[] {-1, 5}) {
            noMove(Sheets::busy, 2, 4, place, BAD_VALUE);
        }
        for (int place : new int[] {MIN, -1, 1, MAX}) {
            noMove(Sheets::busy, 0, 6, place, BAD_VALUE);
            noMove(Sheets::full, 0, 59, place, BAD_VALUE);
        }
        noMove(Sheets::full, 0, 0, 60, BAD_VALUE);
        noMove(Sheets::full, 59, 59, 60, BAD_VALUE);
        Due.is("move(2, 2, 6)", Sheets.busy().move(2, 2, 6), 1);
        Due.is("move(2, 4, 4)", Sheets.busy().move(2, 4, 4), 1);
        Due.is("move(0, 6, 0)", Sheets.busy().move(0, 6, 0), 1);
    }

    // -- promise 10

    private static void lettersOfTheText() {
        Doc.sentence("Promise 10", "Returns a letter of the text.");
        AnchoredNotes x = Sheets.text("zyx");
        x.write(1, 0);
        Due.looks(x, "zayx");
        x.move(0, 1, 2);
        Due.looks(x, "yxza");
        x.erase(1, 2);
        Due.looks(x, "ya");
        x.undo();
        Due.looks(x, "yxza");
        for (int place = -1; place <= 7; place++) {
            int asked = place;
            Same.unchanged("letter(" + place + ")", Sheets::busy, y -> y.letter(asked));
        }
    }

    private static void letterAtTheEnds() {
        Doc.sentence("Promise 10", "Returns 0 to 25");
        AnchoredNotes x = Sheets.text("a");
        Due.is("letter(0), the only one", x.letter(0), 0);
        AnchoredNotes y = Sheets.text("z" + Sheets.alphabet(58) + "z");
        Due.is("letter(0)", y.letter(0), 25);
        Due.is("letter(1)", y.letter(1), 0);
        Due.is("letter(59)", y.letter(59), 25);
    }

    private static void noLetter() {
        Doc.sentence("Promise 10", "NO_SUCH if there is no such place");
        for (int place : new int[] {MIN, -1, 0, 59, MAX}) {
            Same.refused("letter(" + place + ")", Sheets::empty, x -> x.letter(place), NO_SUCH);
        }
        for (int place : new int[] {MIN, -1, 7, 8, MAX}) {
            Same.refused("letter(" + place + ")", Sheets::busy, x -> x.letter(place), NO_SUCH);
        }
        for (int place : new int[] {-1, 60, 61, 64}) {
            Same.refused("letter(" + place + ")", Sheets::full, x -> x.letter(place), NO_SUCH);
        }
        AnchoredNotes x = Sheets.text("abc");
        Due.is("letter(2)", x.letter(2), 2);
        x.erase(0, 0);
        Due.is("letter(1), the last one then", x.letter(1), 2);
        Due.is("letter(2), a place that was there", x.letter(2), NO_SUCH);
    }
}
