/** Promises 14, 15 and 18: printed, count, leastRoom. */
public final class MarginTest {
    public static void main(String[] args) {
        printed();
        printedInOrder();
        printedBelowTheText();
        printedErrors();
        lines();
        counts();
        leastRoom();
        Due.close();
    }

    private static AnchoredNotes page(int width, int room) {
        AnchoredNotes x = Due.text("abcdefghijkl");
        x.set(1, width);
        x.set(2, room);
        return x;
    }

    private static void at(AnchoredNotes x, int note, int line, int leader) {
        Due.is("the line of note " + note, x.printed(note, 0), line);
        Due.is("the leader of note " + note, x.printed(note, 1), leader);
    }

    private static void printed() {
        AnchoredNotes x = page(4, 2);
        x.note(3, 3);
        x.note(3, 5);
        x.note(4, 4);
        x.note(2, 2);
        x.note(11, 11);
        at(x, 3, 0, 0);
        at(x, 0, 0, 0);
        at(x, 1, 1, 1);
        at(x, 2, 1, 0);
        at(x, 4, 2, 0);
        Due.is("the last line", x.count(6), 2);
        Due.is("the leaders", x.count(7), 1);
    }

    private static void printedInOrder() {
        AnchoredNotes x = page(4, 1);
        x.note(1, 1);
        x.note(0, 0);
        x.note(4, 4);
        x.note(0, 3);
        at(x, 1, 0, 0);
        at(x, 3, 1, 1);
        at(x, 0, 2, 2);
        at(x, 2, 3, 2);
        Due.is("the leaders", x.count(7), 5);
        x.erase(0, 2);
        at(x, 0, -6, -6);
        at(x, 1, -6, -6);
        at(x, 3, 0, 0);
        at(x, 2, 1, 1);
        Due.is("a note that stands at its longest piece", x.move(0, 0, 5), 0);
        at(x, 2, 0, 0);
        at(x, 3, 1, 0);
    }

    private static void printedBelowTheText() {
        AnchoredNotes x = page(1, 1);
        for (int note = 0; note < 16; note++) {
            x.note(11, 11);
        }
        at(x, 0, 11, 0);
        at(x, 15, 26, 15);
        Due.is("the last line", x.count(6), 26);
        Due.is("the leaders", x.count(7), 120);
        x.set(2, 2);
        Due.is("the leaders with more room", x.count(7), 56);
        x.set(2, 1);
        Due.append(x, "mnopqrstuvwxyzmnopqrstuvwxyzmnopqrstuvwxyzmnopqr");
        x.move(11, 11, 59);
        at(x, 15, 74, 15);
        Due.is("lines of the text", x.count(5), 60);
    }

    private static void printedErrors() {
        AnchoredNotes x = page(12, 2);
        Due.is("printed(0, 0)", x.printed(0, 0), -1);
        x.note(0, 0);
        x.reply(0);
        Due.is("printed(2, 0)", x.printed(2, 0), -1);
        Due.is("printed(-1, 2): the note comes first", x.printed(-1, 2), -1);
        Due.is("printed(0, 2)", x.printed(0, 2), -2);
        Due.is("printed(0, -1)", x.printed(0, -1), -2);
        Due.is("printed(1, 2): an error comes ahead of NONE", x.printed(1, 2), -2);
        Due.is("a reply is not printed", x.printed(1, 0), -6);
        Due.is("nor has it a leader", x.printed(1, 1), -6);
    }

    private static void lines() {
        AnchoredNotes x = new AnchoredNotes();
        x.set(1, 4);
        Due.is("lines without letters", x.count(5), 0);
        int[] lines = {1, 1, 1, 1, 2, 2, 2, 2, 3};
        for (int length = 0; length < lines.length; length++) {
            x.write(length, 0);
            Due.is("lines of " + (length + 1), x.count(5), lines[length]);
        }
    }

    private static void counts() {
        AnchoredNotes x = Due.text("abcdef");
        x.note(0, 1);
        x.note(2, 4);
        x.reply(0);
        x.reply(2);
        x.note(5, 5);
        x.erase(0, 1);
        x.write(1, 25);
        x.set(0, 8);
        x.set(1, 3);
        x.set(2, 9);
        Due.put(x, "r0;");
        int[] due = {5, 4 + 1, 1, 2, 1, 2, 1, 0, 8, 3, 9, 3, 6};
        for (int what = 0; what < due.length; what++) {
            Due.is("count(" + what + ")", x.count(what), due[what]);
        }
        Due.is("count(-1)", x.count(-1), -2);
        Due.is("count(13)", x.count(13), -2);
        x.erase(0, 4);
        Due.is("the last line without printed notes", x.count(6), -6);
        Due.is("the leaders without printed notes", x.count(7), 0);
        Due.is("orphans", x.count(2), 3);
    }

    private static void leastRoom() {
        AnchoredNotes x = page(1, 2);
        Due.is("leastRoom(-1)", x.leastRoom(-1), -2);
        Due.is("leastRoom(61)", x.leastRoom(61), -2);
        Due.is("without notes", x.leastRoom(0), 1);
        Due.is("without notes", x.leastRoom(60), 1);
        for (int note = 0; note < 9; note++) {
            x.note(3, 3);
        }
        int[] due = {9, 5, 3, 3, 2, 2, 2, 2, 1, 1};
        for (int leader = 0; leader < due.length; leader++) {
            Due.is("leastRoom(" + leader + ")", x.leastRoom(leader), due[leader]);
        }
        x.note(3, 3);
        Due.is("ten notes at a place", x.leastRoom(0), -6);
        Due.is("with a leader of 1", x.leastRoom(1), 5);
        x.erase(3, 3);
        Due.is("orphans have no leaders", x.leastRoom(0), 1);
        Due.is("ROOM stays", x.count(10), 2);
        Due.is("a question is no change", x.undo(), 5);
    }
}
