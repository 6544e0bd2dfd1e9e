import java.util.Arrays;
import java.util.function.Supplier;

/** The bounds of Margin and promises 14, 15 and 18: printed, count, leastRoom. */
public final class MarginBoundsTest {
    private static final int MIN = Integer.MIN_VALUE, MAX = Integer.MAX_VALUE;
    private static final int NO_SUCH = -1, BAD_VALUE = -2, NONE = -6;
    private static final int[] NO_NOTE_OF_THREE = {MIN, -33, -32, -16, -1, 3, 16, 32, 33, 64, 1 << 16, MAX};

    public static void main(String[] args) {
        linesOfPlaces();
        whichArePrinted();
        orderByPlaces();
        orderByNumbers();
        orderByThePiece();
        roomOnALine();
        noRoomOnTheNext();
        belowTheText();
        leaders();
        whereItIsPrinted();
        lineAndLeader();
        printedNoNote();
        printedWrongQuestion();
        printedNone();
        countChangesNothing();
        countLetters();
        countNotes();
        countParted();
        countLines();
        countLastLine();
        countLeaders();
        countSettings();
        countPad();
        countChanges();
        countWrongQuestion();
        leaderOutOfRange();
        leastRooms();
        noRoom();
        Due.close();
    }

    private static void printed(AnchoredNotes x, int note, int line, int leader) {
        Due.is("the line of note " + note, x.printed(note, 0), line);
        Due.is("the leader of note " + note, x.printed(note, 1), leader);
    }

    private static void noPrinted(Supplier<AnchoredNotes> made, int note, int what, int error) {
        Same.refused("printed(" + note + ", " + what + ")", made, x -> x.printed(note, what), error);
    }

    /** Notes, each to one letter of a text of 60. */
    private static AnchoredNotes page(int width, int room, int... places) {
        AnchoredNotes x = Sheets.letters(60);
        x.set(1, width);
        x.set(2, room);
        for (int note = 0; note < places.length; note++) {
            Due.is("note", x.note(places[note], places[note]), note);
        }
        return x;
    }

    private static AnchoredNotes manyAt(int place, int notes, int width, int room) {
        int[] places = new int[notes];
        Arrays.fill(places, place);
        return page(width, room, places);
    }

    // -- Margin

    private static void linesOfPlaces() {
        Doc.sentence("Margin", "The line of a place is the place divided by WIDTH, rounded down.");
        int[][] lines = {{1, 0, 0}, {1, 1, 1}, {1, 59, 59}, {2, 1, 0}, {2, 2, 1}, {2, 59, 29}, {12, 11, 0}, {12, 12, 1},
            {12, 59, 4}, {7, 6, 0}, {7, 7, 1}, {7, 55, 7}, {7, 56, 8}, {59, 58, 0}, {59, 59, 1}, {60, 0, 0}, {60, 59, 0}};
        for (int[] due : lines) {
            AnchoredNotes x = page(due[0], 2, due[1]);
            Due.is("WIDTH " + due[0] + ", place " + due[1], x.printed(0, 0), due[2]);
            Due.is("its leader", x.printed(0, 1), 0);
        }
    }

    private static void whichArePrinted() {
        Doc.sentence("Margin", "Notes with a passage that stand are printed beside the text");
        AnchoredNotes x = page(12, 1, 0, 13);
        x.reply(0);
        printed(x, 2, NONE, NONE);
        printed(x, 1, 1, 0);
        x.erase(0, 0);
        printed(x, 0, NONE, NONE);
        printed(x, 2, NONE, NONE);
        printed(x, 1, 1, 0);
        x.write(0, 0);
        x.reclaim(0);
        printed(x, 0, 0, 0);
        x.note(0, 59);
        x.erase(1, 59);
        printed(x, 3, 1, 1);
        Due.is("an orphan takes no room", x.printed(1, 0), NONE);
        x.drop(0);
        Due.is("nor one that was dropped", x.printed(1, 0), 0);
    }

    private static void orderByPlaces() {
        Doc.sentence("Margin", "in the order of the first places of the pieces at which they stand");
        AnchoredNotes x = page(60, 1, 59, 1, 58, 0);
        printed(x, 3, 0, 0);
        printed(x, 1, 1, 1);
        printed(x, 2, 2, 2);
        printed(x, 0, 3, 3);
        AnchoredNotes y = page(12, 1, 12, 11, 0);
        printed(y, 2, 0, 0);
        printed(y, 1, 1, 1);
        printed(y, 0, 2, 1);
    }

    private static void orderByNumbers() {
        Doc.sentence("Margin", "of like ones in that of their numbers");
        AnchoredNotes x = manyAt(5, 16, 12, 1);
        for (int note = 0; note < 16; note++) {
            printed(x, note, note, note);
        }
        AnchoredNotes y = page(12, 1);
        y.note(3, 9);
        y.note(3, 3);
        y.note(2, 9);
        printed(y, 2, 0, 0);
        printed(y, 0, 1, 1);
        printed(y, 1, 2, 2);
        Due.is("drop(0)", y.drop(0), 1);
        printed(y, 1, 0, 0);
        printed(y, 0, 1, 1);
    }

    private static void orderByThePiece() {
        Doc.sentence("Margin", "in the order of the first places of the pieces at which they stand");
        AnchoredNotes x = Sheets.text("abcdef");
        x.set(2, 1);
        x.note(0, 2);
        x.note(3, 3);
        printed(x, 0, 0, 0);
        printed(x, 1, 1, 1);
        Due.is("its letters are parted", x.move(1, 2, 3), 1);
        Due.looks(x, "adebcf");
        printed(x, 1, 0, 0);
        printed(x, 0, 1, 1);
        x.erase(3, 3);
        Due.is("two pieces of one letter", x.of(0, 5), 2);
        printed(x, 0, 0, 0);
        printed(x, 1, 1, 1);
    }

    private static void roomOnALine() {
        Doc.sentence("Margin", "each one at the first line that is not above its own (the line of that first place), and at which fewer than ROOM notes are printed already.");
        for (int room = 1; room <= 9; room++) {
            AnchoredNotes x = manyAt(0, room + 1, 60, room);
            for (int note = 0; note < room; note++) {
                printed(x, note, 0, 0);
            }
            printed(x, room, 1, 1);
        }
        AnchoredNotes y = manyAt(59, 16, 60, 9);
        printed(y, 8, 0, 0);
        printed(y, 9, 1, 1);
        printed(y, 15, 1, 1);
        AnchoredNotes z = manyAt(59, 16, 60, 5);
        printed(z, 14, 2, 2);
        printed(z, 15, 3, 3);
    }

    private static void noRoomOnTheNext() {
        Doc.sentence("Margin", "and at which fewer than ROOM notes are printed already");
        AnchoredNotes x = page(1, 1, 0, 0, 1, 1, 2, 5);
        int[] lines = {0, 1, 2, 3, 4, 5};
        int[] leaders = {0, 1, 1, 2, 2, 0};
        for (int note = 0; note < lines.length; note++) {
            printed(x, note, lines[note], leaders[note]);
        }
        AnchoredNotes y = page(1, 2, 0, 0, 0, 1, 1, 2);
        int[] dueLines = {0, 0, 1, 1, 2, 2};
        int[] dueLeaders = {0, 0, 1, 0, 1, 0};
        for (int note = 0; note < dueLines.length; note++) {
            printed(y, note, dueLines[note], dueLeaders[note]);
        }
    }

    private static void belowTheText() {
        Doc.sentence("Margin", "each one at the first line that is not above its own");
        AnchoredNotes x = manyAt(59, 16, 1, 1);
        Due.is("lines of the text", x.count(5), 60);
        printed(x, 0, 59, 0);
        printed(x, 1, 60, 1);
        printed(x, 15, 74, 15);
        AnchoredNotes y = Sheets.notes("a", 16, 0, 0);
        y.set(2, 9);
        Due.is("lines of the text", y.count(5), 1);
        printed(y, 8, 0, 0);
        printed(y, 15, 1, 1);
    }

    private static void leaders() {
        Doc.sentence("Margin", "Its leader is as long as that line is below its own one (0 if it is its own).");
        AnchoredNotes x = page(12, 1, 11, 11, 11, 12, 47);
        printed(x, 0, 0, 0);
        printed(x, 1, 1, 1);
        printed(x, 2, 2, 2);
        printed(x, 3, 3, 2);
        printed(x, 4, 4, 1);
        x.set(2, 3);
        for (int note = 0; note < 5; note++) {
            Due.is("with room for all", x.printed(note, 1), 0);
        }
    }

    // -- promise 14

    private static void whereItIsPrinted() {
        Doc.sentence("Promise 14", "Returns where a note is printed.");
        Doc.sentence("Promise 14", "Returns the number");
        AnchoredNotes x = page(12, 2, 13, 12, 59, 14);
        printed(x, 0, 1, 0);
        printed(x, 1, 1, 0);
        printed(x, 2, 4, 0);
        printed(x, 3, 2, 1);
        x.move(13, 13, 59);
        printed(x, 0, 4, 0);
        printed(x, 3, 1, 0);
        for (int what = 0; what <= 1; what++) {
            int asked = what;
            for (Supplier<AnchoredNotes> made : Sheets.ALL) {
                Same.unchanged("printed(0, " + what + ")", made, y -> y.printed(0, asked));
            }
        }
    }

    private static void lineAndLeader() {
        Doc.sentence("Promise 14", "`what`: 0 the line, 1 its leader");
        printed(page(60, 1, 59), 0, 0, 0);
        printed(page(1, 1, 59), 0, 59, 0);
        AnchoredNotes x = manyAt(59, 16, 1, 1);
        printed(x, 15, 74, 15);
    }

    private static void printedNoNote() {
        Doc.sentence("Promise 14", "NO_SUCH if there is no such note");
        noPrinted(Sheets::empty, 0, 0, NO_SUCH);
        for (int note : NO_NOTE_OF_THREE) {
            noPrinted(Sheets::busy, note, 0, NO_SUCH);
            noPrinted(Sheets::busy, note, 1, NO_SUCH);
            // Of several errors the first one.
            noPrinted(Sheets::busy, note, 2, NO_SUCH);
        }
        noPrinted(Sheets::full, 16, 0, NO_SUCH);
        Due.is("the last one with a passage", Sheets.full().printed(14, 0), 73);
    }

    private static void printedWrongQuestion() {
        Doc.sentence("Promise 14", "BAD_VALUE if what is neither 0 nor 1");
        for (int what : new int[] {MIN, -1, 2, MAX}) {
            for (int note = 0; note < 3; note++) {
                noPrinted(Sheets::busy, note, what, BAD_VALUE);
            }
        }
        Due.is("printed(0, 0)", Sheets.busy().printed(0, 0), 0);
        Due.is("printed(0, 1)", Sheets.busy().printed(0, 1), 0);
    }

    private static void printedNone() {
        Doc.sentence("Promise 14", "NONE if it is not printed");
        printed(Sheets.busy(), 1, NONE, NONE);
        printed(Sheets.busy(), 2, NONE, NONE);
        printed(Sheets.full(), 15, NONE, NONE);
        AnchoredNotes x = Sheets.chain("ab", 16);
        printed(x, 0, 0, 0);
        printed(x, 15, NONE, NONE);
    }

    // -- promise 15

    private static void countChangesNothing() {
        Doc.sentence("Promise 15", "Returns a number.");
        Doc.sentence("Promise 15", "Returns the number");
        int[] due = {7, 3, 1, 1, 1, 1, 0, 0, 2, 12, 2, 5, 6};
        for (int what = 0; what < due.length; what++) {
            int asked = what;
            Due.is("count(" + what + ")", Sheets.busy().count(what), due[what]);
            Same.unchanged("count(" + what + ")", Sheets::busy, x -> x.count(asked));
        }
    }

    private static void countLetters() {
        Doc.sentence("Promise 15", "`what`: 0 letters of the text, 1 notes, 2 orphans, 3 replies");
        Due.is("no letters", Sheets.empty().count(0), 0);
        Due.is("one", Sheets.letters(1).count(0), 1);
        Due.is("60", Sheets.letters(60).count(0), 60);
    }

    private static void countNotes() {
        Doc.sentence("Promise 15", "`what`: 0 letters of the text, 1 notes, 2 orphans, 3 replies");
        int[][] due = {{0, 0, 0}, {3, 1, 1}, {16, 0, 1}};
        for (int state = 0; state < due.length; state++) {
            for (int what = 1; what <= 3; what++) {
                Due.is("count(" + what + ")", Sheets.ALL.get(state).get().count(what), due[state][what - 1]);
            }
        }
        AnchoredNotes x = Sheets.notes("ab", 16, 0, 0);
        Due.is("no orphans", x.count(2), 0);
        x.erase(0, 0);
        Due.is("16 orphans", x.count(2), 16);
        Due.is("they are notes", x.count(1), 16);
        AnchoredNotes y = Sheets.chain("ab", 16);
        Due.is("15 replies", y.count(3), 15);
        y.erase(0, 0);
        Due.is("replies to an orphan are none", y.count(2), 1);
    }

    private static void countParted() {
        Doc.sentence("Promise 15", "4 notes in more than one piece");
        AnchoredNotes x = Sheets.notes("abc", 16, 0, 2);
        Due.is("all are in one piece", x.count(4), 0);
        x.write(2, 0);
        Due.is("all are in two", x.count(4), 16);
        x.write(1, 0);
        Due.is("all are in three", x.count(4), 16);
        x.erase(1, 1);
        Due.is("all are in two", x.count(4), 16);
        x.erase(2, 2);
        Due.is("all are in one", x.count(4), 0);
        x.erase(0, 2);
        Due.is("all are in none", x.count(4), 0);
        Due.is("replies are in none", Sheets.busy().count(4), 1);
    }

    private static void countLines() {
        Doc.sentence("Promise 15", "5 lines of the text (of its last place, and 1; 0 without letters)");
        int[][] lines = {{1, 1}, {11, 1}, {12, 1}, {13, 2}, {24, 2}, {25, 3}, {60, 5}};
        for (int[] due : lines) {
            Due.is("lines of " + due[0], Sheets.letters(due[0]).count(5), due[1]);
        }
        for (int width : new int[] {1, 12, 60}) {
            AnchoredNotes x = Sheets.empty();
            x.set(1, width);
            Due.is("without letters", x.count(5), 0);
            x.write(0, 0);
            Due.is("of one", x.count(5), 1);
            x.erase(0, 0);
            Due.is("without letters again", x.count(5), 0);
        }
        int[][] of60 = {{1, 60}, {2, 30}, {59, 2}, {60, 1}};
        for (int[] due : of60) {
            Due.is("lines of 60, WIDTH " + due[0], page(due[0], 1).count(5), due[1]);
        }
    }

    private static void countLastLine() {
        Doc.sentence("Promise 15", "6 the last line at which a note is printed (NONE)");
        Due.is("no letters", Sheets.empty().count(6), NONE);
        Due.is("no notes", Sheets.letters(60).count(6), NONE);
        Due.is("at the first line", page(60, 1, 59).count(6), 0);
        Due.is("the last line, not that of the last note", page(1, 1, 59, 0).count(6), 59);
        Due.is("the last one that there can be", manyAt(59, 16, 1, 1).count(6), 74);
        AnchoredNotes x = page(1, 1, 59);
        x.reply(0);
        x.erase(59, 59);
        Due.is("an orphan and a reply to it", x.count(6), NONE);
    }

    private static void countLeaders() {
        Doc.sentence("Promise 15", "7 the leaders of all notes together");
        Due.is("no letters", Sheets.empty().count(7), 0);
        Due.is("one note", page(1, 1, 59).count(7), 0);
        Due.is("two notes", page(1, 1, 59, 59).count(7), 1);
        Due.is("16 notes", manyAt(59, 16, 1, 1).count(7), 120);
        Due.is("16 notes, ROOM 9", manyAt(0, 16, 60, 9).count(7), 7);
        Due.is("two at each place", page(1, 1, 0, 0, 1, 1, 2, 2, 3, 3, 4, 4, 5, 5, 6, 6).count(7), 49);
        AnchoredNotes x = page(1, 1, 59, 59);
        x.erase(59, 59);
        Due.is("two orphans", x.count(7), 0);
    }

    private static void countSettings() {
        Doc.sentence("Promise 15", "8 to 10 the settings");
        int[] values = {8, 60, 9};
        int[] least = {0, 1, 1};
        AnchoredNotes x = Sheets.empty();
        for (int setting = 0; setting < 3; setting++) {
            x.set(setting, values[setting]);
            Due.is("count(" + (8 + setting) + ")", x.count(8 + setting), values[setting]);
            x.set(setting, least[setting]);
            Due.is("count(" + (8 + setting) + ")", x.count(8 + setting), least[setting]);
        }
    }

    private static void countPad() {
        Doc.sentence("Promise 15", "11 the length of the pad");
        Due.is("an empty pad", Sheets.empty().count(11), 0);
        Due.is("some characters", Sheets.busy().count(11), 5);
        Due.is("a full pad", Sheets.full().count(11), 80);
        AnchoredNotes x = Sheets.full();
        x.wipe();
        Due.is("wiped", x.count(11), 0);
    }

    private static void countChanges() {
        Doc.sentence("Promise 15", "12 how many changes can be undone");
        AnchoredNotes x = Sheets.empty();
        for (int change = 0; change < 9; change++) {
            Due.is("changes", x.count(12), Math.min(change, 6));
            x.set(0, 1);
        }
        for (int left = 5; left >= 0; left--) {
            x.undo();
            Due.is("changes that are left", x.count(12), left);
        }
        x.undo();
        Due.is("none is left", x.count(12), 0);
    }

    private static void countWrongQuestion() {
        Doc.sentence("Promise 15", "BAD_VALUE if what is out of range");
        for (int what : new int[] {MIN, -1, 13, 16, MAX}) {
            for (Supplier<AnchoredNotes> made : Sheets.ALL) {
                Same.refused("count(" + what + ")", made, x -> x.count(what), BAD_VALUE);
            }
        }
        for (Supplier<AnchoredNotes> made : Sheets.ALL) {
            for (int what = 0; what <= 12; what++) {
                Due.holds("count(" + what + ") has an answer", made.get().count(what) >= 0 || what == 6);
            }
        }
    }

    // -- promise 18

    private static void leaderOutOfRange() {
        Doc.sentence("Promise 18", "`leader`: 0 to 60");
        for (int leader : new int[] {MIN, -1, 61, MAX}) {
            for (Supplier<AnchoredNotes> made : Sheets.ALL) {
                Same.refused("leastRoom(" + leader + ")", made, x -> x.leastRoom(leader), BAD_VALUE);
            }
        }
        Doc.sentence("Promise 18", "BAD_VALUE if leader is out of range");
        Due.is("leastRoom(61), an error ahead of NONE", manyAt(0, 10, 60, 1).leastRoom(61), BAD_VALUE);
        Due.is("leastRoom(-1), an error ahead of NONE", manyAt(0, 10, 60, 1).leastRoom(-1), BAD_VALUE);
        Due.is("leastRoom(0)", Sheets.empty().leastRoom(0), 1);
        Due.is("leastRoom(60)", Sheets.empty().leastRoom(60), 1);
        Due.is("leastRoom(60) of 16 at a place", manyAt(59, 16, 1, 9).leastRoom(60), 1);
    }

    private static void leastRooms() {
        Doc.sentence("Promise 18", "Returns the setting");
        Doc.sentence("Promise 18", "Finds the least ROOM, 1 to 9, with which all leaders are no longer than told.");
        for (int notes = 1; notes <= 9; notes++) {
            Due.is(notes + " at a place, no leader", manyAt(59, notes, 1, 1).leastRoom(0), notes);
            Due.is("one less at the place", manyAt(59, notes, 1, 9).leastRoom(notes - 1), 1);
        }
        Due.is("16 at a place, 15", manyAt(59, 16, 1, 9).leastRoom(15), 1);
        Due.is("16 at a place, 14", manyAt(59, 16, 1, 9).leastRoom(14), 2);
        Due.is("16 at a place, 7", manyAt(59, 16, 1, 9).leastRoom(7), 2);
        Due.is("16 at a place, 6", manyAt(59, 16, 1, 9).leastRoom(6), 3);
        Due.is("16 at a place, 1", manyAt(59, 16, 1, 9).leastRoom(1), 8);
        Due.is("the last of two at each place has 7", page(1, 1, 0, 0, 1, 1, 2, 2, 3, 3, 4, 4, 5, 5, 6, 6).leastRoom(7), 1);
        Due.is("no leader longer than 6", page(1, 1, 0, 0, 1, 1, 2, 2, 3, 3, 4, 4, 5, 5, 6, 6).leastRoom(6), 2);
        Due.is("WIDTH counts", page(60, 1, 0, 12, 24, 36).leastRoom(0), 4);
        Due.is("WIDTH counts", page(12, 1, 0, 12, 24, 36).leastRoom(0), 1);
        AnchoredNotes x = manyAt(59, 9, 1, 3);
        Due.is("leastRoom(0)", x.leastRoom(0), 9);
        Due.is("ROOM stays", x.count(10), 3);
        Due.is("so do the leaders", x.count(7), 9);
        x.erase(59, 59);
        Due.is("orphans have no leaders", x.leastRoom(0), 1);
    }

    private static void noRoom() {
        Doc.sentence("Promise 18", "NONE if there is none");
        Due.is("nine at a place", manyAt(0, 9, 60, 1).leastRoom(0), 9);
        Due.is("ten at a place", manyAt(0, 10, 60, 1).leastRoom(0), NONE);
        Due.is("ten at a place, 1", manyAt(0, 10, 60, 1).leastRoom(1), 5);
        Due.is("16 at a place, 0", manyAt(59, 16, 1, 9).leastRoom(0), NONE);
        Due.is("nine at a place and one at the next", page(1, 9, 0, 0, 0, 0, 0, 0, 0, 0, 0, 1).leastRoom(0), 9);
        AnchoredNotes x = manyAt(0, 10, 60, 1);
        x.drop(9);
        Due.is("one of ten is dropped", x.leastRoom(0), 9);
    }
}
