/** Promises 23 to 25: undo, save, restore. */
public final class HistoryTest {
    private static final String PAGE = "+0=abcdefgh;n1-3;n5-5;r1;-5-5;+2=f;n0-1";

    public static void main(String[] args) {
        undoEachChange();
        undoChangesOneByOne();
        undoAtMostSix();
        undoOfNotes();
        whatIsNoChange();
        save();
        restore();
        slotsStay();
        Due.close();
    }

    /** All answers about the state, but for the pad and the history. */
    private static String state(AnchoredNotes x) {
        StringBuilder state = new StringBuilder();
        for (int what = 0; what <= 10; what++) {
            state.append(x.count(what)).append(' ');
        }
        for (int place = 0; place < x.count(0); place++) {
            state.append(x.letter(place)).append('/').append(x.at(place)).append(' ');
        }
        for (int note = 0; note < x.count(1); note++) {
            state.append(Due.words(x, note)).append(' ');
            for (int what = 0; what <= 8; what++) {
                state.append(x.of(note, what)).append(' ');
            }
            for (int what = 0; what <= 2; what++) {
                state.append(x.could(note, what)).append(' ');
            }
        }
        return state.toString();
    }

    private static void undone(AnchoredNotes x, String call) {
        int changes = x.count(12);
        Due.is("undo() of " + call, x.undo(), changes - 1);
        Due.holds("undone: " + call, state(x).equals(state(page())));
    }

    private static AnchoredNotes page() {
        AnchoredNotes x = new AnchoredNotes();
        Due.is("a page", Due.carryOut(x, PAGE), 7);
        return x;
    }

    private static void undoEachChange() {
        AnchoredNotes x = page();
        Due.is("set(0, 0)", x.set(0, 0), 3);
        undone(x, "set AROUND");
        x = page();
        Due.is("set(1, 1)", x.set(1, 1), 12);
        undone(x, "set WIDTH");
        x = page();
        Due.is("set(2, 9)", x.set(2, 9), 2);
        undone(x, "set ROOM");
        x = page();
        Due.is("write(3, 3)", x.write(3, 3), 9);
        undone(x, "write");
        x = page();
        Due.is("erase(0, 4)", x.erase(0, 4), 2);
        undone(x, "erase");
        x = page();
        Due.is("move(0, 3, 2)", x.move(0, 3, 2), 1);
        undone(x, "move");
        x = page();
        Due.is("note(1, 1)", x.note(1, 1), 4);
        undone(x, "note");
        x = page();
        Due.is("reply(0)", x.reply(0), 4);
        undone(x, "reply");
        x = page();
        Due.is("drop(1)", x.drop(1), 2);
        undone(x, "drop");
        x = page();
        Due.is("reclaim(1)", x.reclaim(1), 2);
        undone(x, "reclaim");
        x = page();
        Due.is("carryOut()", Due.carryOut(x, "x1;-0-0;+0=z"), 3);
        undone(x, "carryOut");
        x = new AnchoredNotes();
        x.save(0);
        Due.is("a page", Due.carryOut(x, PAGE), 7);
        Due.is("restore(0)", x.restore(0), 0);
        undone(x, "restore");
    }

    /** So many changes, the first of which makes the page. */
    private static AnchoredNotes changed(int changes) {
        AnchoredNotes x = page();
        for (int change = 1; change < changes; change++) {
            int answer = switch (change) {
                case 1 -> x.drop(0);
                case 2 -> x.erase(1, 4);
                case 3 -> x.note(0, 2);
                case 4 -> x.move(0, 0, 3);
                default -> x.set(1, 1);
            };
            Due.holds("change " + change + " succeeds", answer >= 0);
        }
        return x;
    }

    private static void undoChangesOneByOne() {
        for (int left = 5; left >= 1; left--) {
            AnchoredNotes x = changed(6);
            for (int undone = 5; undone >= left; undone--) {
                Due.is("undo()", x.undo(), undone);
            }
            Due.holds("state " + left, state(x).equals(state(changed(left))));
        }
    }

    private static void undoAtMostSix() {
        AnchoredNotes x = new AnchoredNotes();
        int[] changes = {1, 2, 3, 4, 5, 6, 6, 6};
        for (int length = 0; length < changes.length; length++) {
            x.write(length, 0);
            Due.is("changes", x.count(12), changes[length]);
        }
        Due.is("an error", x.write(0, 26), -2);
        for (int left = 5; left >= 0; left--) {
            Due.is("undo()", x.undo(), left);
            Due.is("letters", x.count(0), 2 + left);
        }
        Due.is("undo() of none", x.undo(), -5);
        Due.is("letters", x.count(0), 2);
        Due.is("write(0, 1)", x.write(0, 1), 3);
        Due.is("a change again", x.count(12), 1);
        Due.is("undo()", x.undo(), 0);
        Due.looks(x, "aa");
    }

    private static void undoOfNotes() {
        AnchoredNotes x = Due.text("abcabc");
        x.note(3, 4);
        x.erase(3, 4);
        x.reclaim(0);
        Due.is("reclaimed", x.of(0, 1), 0);
        Due.is("undo()", x.undo(), 5);
        Due.is("an orphan again", x.of(0, 0), 1);
        Due.is("its likeness: c behind", x.could(0, 1), 1);
        Due.is("undo()", x.undo(), 4);
        Due.is("it stands again", x.of(0, 1), 3);
    }

    private static void whatIsNoChange() {
        AnchoredNotes x = Due.text("abc");
        x.note(0, 0);
        x.save(0);
        x.put('a');
        x.wipe();
        x.fault();
        x.orphansIf(0, 2);
        x.could(0, 0);
        x.leastRoom(0);
        x.restore(1);
        x.restore(2);
        x.save(2);
        x.write(9, 0);
        x.erase(1, 0);
        x.move(0, 0, 9);
        x.note(1, 0);
        x.reply(9);
        x.drop(9);
        x.reclaim(0);
        x.set(0, 9);
        x.carryOut();
        Due.is("changes", x.count(12), 4);
        Due.is("a set to the same value is one", x.set(0, 3), 3);
        Due.is("changes", x.count(12), 5);
    }

    private static void save() {
        AnchoredNotes x = Due.text("ab");
        Due.is("save(-1)", x.save(-1), -2);
        Due.is("save(2)", x.save(2), -2);
        Due.is("save(0)", x.save(0), 2);
        x.erase(0, 0);
        Due.is("save(1)", x.save(1), 1);
        Due.is("restore(0)", x.restore(0), 2);
        Due.looks(x, "ab");
        Due.is("restore(1)", x.restore(1), 1);
        Due.looks(x, "b");
        Due.is("save(0) overwrites", x.save(0), 1);
        x.write(0, 7);
        Due.is("restore(0)", x.restore(0), 1);
        Due.looks(x, "b");
    }

    private static void restore() {
        AnchoredNotes x = page();
        Due.is("restore(-1)", x.restore(-1), -2);
        Due.is("restore(2)", x.restore(2), -2);
        Due.is("restore(0) of nothing", x.restore(0), -5);
        String saved = state(x);
        Due.is("save(0)", x.save(0), 8);
        Due.is("restore(1) of nothing", x.restore(1), -5);
        x.set(0, 1);
        x.set(1, 2);
        x.set(2, 3);
        x.drop(0);
        x.erase(0, 4);
        Due.put(x, "r0");
        int changes = x.count(12);
        Due.is("restore(0)", x.restore(0), 8);
        Due.holds("all is as it was saved", state(x).equals(saved));
        Due.is("but for the pad", x.count(11), 2);
        Due.is("and the history", x.count(12), Math.min(6, changes + 1));
        x.erase(0, 7);
        Due.is("the slot keeps it", x.restore(0), 8);
        Due.holds("all is as it was saved", state(x).equals(saved));
    }

    private static void slotsStay() {
        AnchoredNotes x = new AnchoredNotes();
        Due.is("save(1) of an empty text", x.save(1), 0);
        x.write(0, 5);
        Due.is("save(0)", x.save(0), 1);
        Due.is("undo()", x.undo(), 0);
        Due.is("slots stay when changes are undone", x.restore(0), 1);
        Due.is("an empty text is saved, too", x.restore(1), 0);
        Due.is("letters", x.count(0), 0);
    }
}
