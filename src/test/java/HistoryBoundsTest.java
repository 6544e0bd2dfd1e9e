import java.util.function.Supplier;
import java.util.function.ToIntFunction;

/** The bounds of promises 23 to 25: undo, save, restore. */
public final class HistoryBoundsTest {
    private static final int MIN = Integer.MIN_VALUE, MAX = Integer.MAX_VALUE;
    private static final int BAD_VALUE = -2, NOT_POSSIBLE = -5;

    public static void main(String[] args) {
        nothingToUndo();
        mostStates();
        oldestIsDropped();
        changesLeft();
        eachChangeRecords();
        firstChanges();
        notesChange();
        textsAndSlotsChange();
        latestChange();
        sameStateRecords();
        refusedRecordsNothing();
        asksRecordNothing();
        ordersRecordNothing();
        padSlotsHistoryStay();
        undoneIsAsBefore();
        undoOfFullRows();
        slotsToSave();
        lengthBySave();
        saveOverwrites();
        saveIsNoChange();
        slotsToRestore();
        nothingSaved();
        restoreIsAsSaved();
        restoreKeepsTheSlot();
        restoreIsAChange();
        restoreOfFullRows();
        Due.close();
    }

    private static AnchoredNotes changed(int changes) {
        AnchoredNotes x = Sheets.empty();
        for (int change = 0; change < changes; change++) {
            Due.is("write", x.write(change, change % 26), change + 1);
        }
        return x;
    }

    // -- promise 23

    private static void nothingToUndo() {
        Doc.sentence("Promise 23", "NOT_POSSIBLE if there is none");
        Same.refused("undo() of a new object", Sheets::empty, AnchoredNotes::undo, NOT_POSSIBLE);
        for (int changes = 1; changes <= 8; changes++) {
            int kept = Math.min(6, changes);
            int made = changes;
            Supplier<AnchoredNotes> undone = () -> {
                AnchoredNotes x = changed(made);
                for (int left = kept - 1; left >= 0; left--) {
                    Due.is("undo()", x.undo(), left);
                }
                return x;
            };
            Same.refused("undo() once more than there are", undone, AnchoredNotes::undo, NOT_POSSIBLE);
            Due.is("letters", undone.get().count(0), changes - kept);
        }
        AnchoredNotes x = Sheets.empty();
        x.save(0);
        Due.is("a saved state is no change", x.undo(), NOT_POSSIBLE);
    }

    private static void mostStates() {
        Doc.sentence("Promise 23", "A history of at most 6 states is kept");
        for (int changes = 0; changes <= 14; changes++) {
            Due.is("changes that can be undone of " + changes, changed(changes).count(12), Math.min(6, changes));
        }
    }

    private static void oldestIsDropped() {
        Doc.sentence("Promise 23", "when one more is recorded, the oldest one is dropped.");
        for (int changes = 6; changes <= 20; changes++) {
            AnchoredNotes x = changed(changes);
            for (int undone = 1; undone <= 6; undone++) {
                Due.is("undo()", x.undo(), 6 - undone);
                Due.looks(x, Sheets.alphabet(changes - undone));
            }
            Due.is("the oldest one is dropped", x.undo(), NOT_POSSIBLE);
            Due.looks(x, Sheets.alphabet(changes - 6));
        }
    }

    private static void changesLeft() {
        Doc.sentence("Promise 23", "Returns how many changes can be undone then");
        AnchoredNotes x = changed(6);
        Due.is("undo() of six", x.undo(), 5);
        Due.is("count(12)", x.count(12), 5);
        x.write(0, 25);
        Due.is("one more is recorded", x.count(12), 6);
        Due.is("undo() of six", x.undo(), 5);
        Due.looks(x, "abcde");
        Due.is("undo() of five", x.undo(), 4);
        Due.looks(x, "abcd");
        AnchoredNotes y = changed(1);
        Due.is("undo() of one", y.undo(), 0);
        Due.looks(y, "");
        Due.is("a change after that", y.write(0, 25), 1);
        Due.is("undo() of that", y.undo(), 0);
        Due.looks(y, "");
    }

    /** A text with notes by one change, a saved state and an order in the pad: each kind of change succeeds on it. */
    private static AnchoredNotes oneChange() {
        AnchoredNotes x = Sheets.empty();
        Due.is("saved", x.save(0), 0);
        Sheets.orders(x, "+0=abcabcd;n0-2;n3-4;r0;-3-4");
        Due.put(x, "x0");
        return x;
    }

    private static AnchoredNotes sixChanges() {
        AnchoredNotes x = oneChange();
        for (int change = 0; change < 6; change++) {
            Due.is("set(2, 9)", x.set(2, 9), change == 0 ? 2 : 9);
        }
        return x;
    }

    /** A call that succeeds and makes a difference is one change, on a short history and on a full one. */
    private static void isAChange(String call, ToIntFunction<AnchoredNotes> change) {
        String before = Same.sheet(oneChange());
        AnchoredNotes x = oneChange();
        Due.holds(call + " succeeds", change.applyAsInt(x) >= 0);
        Due.is("changes after " + call, x.count(12), 2);
        Due.holds(call + " makes a difference", !Same.sheet(x).equals(before));
        Due.is("undo() of " + call, x.undo(), 1);
        Due.holds(call + " is undone", Same.sheet(x).equals(before));
        AnchoredNotes y = sixChanges();
        Due.holds(call + " succeeds", change.applyAsInt(y) >= 0);
        Due.is("changes after " + call + " as the 8th", y.count(12), 6);
        Due.is("undo() of " + call, y.undo(), 5);
        Due.holds(call + " is undone", Same.sheet(y).equals(Same.sheet(sixChanges())));
    }

    private static void firstChanges() {
        Doc.sentence("Promise 2", "Changes a setting. This is a change.");
        isAChange("set(1, 1)", x -> x.set(1, 1));
        Doc.sentence("Promise 3", "Writes a letter. This is a change.");
        isAChange("write(0, 0)", x -> x.write(0, 0));
        Doc.sentence("Promise 4", "Erases letters. This is a change.");
        isAChange("erase(0, 0)", x -> x.erase(0, 0));
        Doc.sentence("Promise 5", "Moves letters. This is a change.");
        isAChange("move(0, 1, 2)", x -> x.move(0, 1, 2));
    }

    private static void notesChange() {
        Doc.sentence("Promise 6", "A note to a passage comes. This is a change.");
        isAChange("note(1, 2)", x -> x.note(1, 2));
        Doc.sentence("Promise 7", "A reply to a note (or to a reply) comes. This is a change.");
        isAChange("reply(0)", x -> x.reply(0));
        isAChange("reply(2), to a reply", x -> x.reply(2));
        Doc.sentence("Promise 8", "Drops a note with all replies to it, to these, and so on. This is a change.");
        isAChange("drop(0)", x -> x.drop(0));
        Doc.sentence("Promise 9", "Reclaims an orphan. This is a change.");
        isAChange("reclaim(1)", x -> x.reclaim(1));
    }

    private static void textsAndSlotsChange() {
        Doc.sentence("Promise 22", "This is a change (one, with all of them; also if none is carried out).");
        isAChange("carryOut()", AnchoredNotes::carryOut);
        Doc.sentence("Promise 25", "Restores what was saved last in a slot, which keeps it. This is a change.");
        isAChange("restore(0)", x -> x.restore(0));
    }

    private static void latestChange() {
        Doc.sentence("Promise 23", "Undoes the latest change");
        AnchoredNotes x = changed(3);
        Due.is("undo()", x.undo(), 2);
        Due.looks(x, "ab");
        Due.is("write(0, 25)", x.write(0, 25), 3);
        Due.is("undo() of that, and not of what was undone", x.undo(), 2);
        Due.looks(x, "ab");
        Due.is("undo() of the one before", x.undo(), 1);
        Due.looks(x, "a");
    }

    private static void eachChangeRecords() {
        Doc.sentence("Promise 23", "each method that is a change, and returns no error, records the state before it");
        AnchoredNotes x = Sheets.empty();
        int[] answers = {x.write(0, 0), x.note(0, 0), x.reply(0), x.move(0, 0, 0), x.erase(0, 0), x.drop(1)};
        for (int answer : answers) {
            Due.holds("it succeeds", answer >= 0);
        }
        int[] letters = {0, 1, 1, 1, 1, 0};
        int[] notes = {0, 0, 1, 2, 2, 2};
        for (int left = 5; left >= 0; left--) {
            Due.is("undo()", x.undo(), left);
            Due.is("letters before change " + left, x.count(0), letters[left]);
            Due.is("notes before change " + left, x.count(1), notes[left]);
        }
    }

    private static void sameStateRecords() {
        Doc.sentence("Promise 23", "(also if nothing is different then)");
        AnchoredNotes x = changed(1);
        Due.is("set(0, 3)", x.set(0, 3), 3);
        Due.is("changes", x.count(12), 2);
        Due.is("move(0, 0, 0)", x.move(0, 0, 0), 0);
        Due.is("changes", x.count(12), 3);
        Due.is("carry out none", Due.carryOut(x, "x0"), 0);
        Due.is("changes", x.count(12), 4);
        x.save(0);
        Due.is("restore(0)", x.restore(0), 1);
        Due.is("changes", x.count(12), 5);
        Due.is("set(0, 3)", x.set(0, 3), 3);
        Due.is("changes", x.count(12), 6);
        Due.is("set(0, 3), the state without letters is dropped", x.set(0, 3), 3);
        for (int left = 5; left >= 0; left--) {
            Due.is("undo()", x.undo(), left);
            Due.looks(x, "a");
        }
        Due.is("undo()", x.undo(), NOT_POSSIBLE);
    }

    private static void refusedRecordsNothing() {
        Doc.sentence("Promise 23", "each method that is a change, and returns no error, records the state before it");
        AnchoredNotes x = oneChange();
        x.wipe();
        int[] answers = {x.set(3, 1), x.set(0, 9), x.write(6, 0), x.write(0, 26), x.erase(5, 5), x.erase(1, 0),
            x.move(0, 0, 5), x.note(0, 5), x.reply(3), x.drop(3), x.reclaim(0), x.reclaim(3), x.carryOut(),
            x.restore(1), x.restore(2)};
        for (int answer : answers) {
            Due.holds("it is refused", answer < 0);
        }
        Due.is("changes", x.count(12), 1);
        Due.is("undo()", x.undo(), 0);
    }

    private static void asksRecordNothing() {
        Doc.sentence("Promise 23", "each method that is a change, and returns no error, records the state before it");
        AnchoredNotes x = oneChange();
        Same.look(x);
        x.orphansIf(0, 4);
        x.leastRoom(60);
        x.save(0);
        x.save(1);
        x.put('r');
        x.fault();
        x.wipe();
        Due.is("changes", x.count(12), 1);
        Due.is("undo()", x.undo(), 0);
        Due.is("undo() is no change", x.undo(), NOT_POSSIBLE);
    }

    private static void ordersRecordNothing() {
        Doc.sentence("Promise 23", "An order of a text records nothing by itself.");
        AnchoredNotes x = changed(2);
        Sheets.orders(x, "+0=z;+0=y;+0=x;n0-0;r0;x1;m0-0>1;-0-0;n0-0");
        Due.is("changes", x.count(12), 3);
        Due.is("undo() of all orders", x.undo(), 2);
        Due.looks(x, "ab");
        Due.is("notes", x.count(1), 0);
        Due.is("undo()", x.undo(), 1);
        Due.looks(x, "a");
        AnchoredNotes y = changed(6);
        Sheets.orders(y, "+0=z;+0=z;+0=z;+0=z;+0=z;+0=z;+0=z;+0=z;+0=z");
        for (int left = 5; left >= 0; left--) {
            Due.is("undo()", y.undo(), left);
            Due.looks(y, Sheets.alphabet(left + 1));
        }
    }

    private static void padSlotsHistoryStay() {
        Doc.sentence("Promise 23", "everything except the pad, the slots and the history is as it was before it.");
        AnchoredNotes x = changed(2);
        x.save(0);
        x.write(0, 25);
        x.save(1);
        Due.put(x, "r0");
        Due.is("undo()", x.undo(), 2);
        Due.is("the pad stays", x.count(11), 2);
        Due.is("undo()", x.undo(), 1);
        Due.is("undo()", x.undo(), 0);
        Due.is("slot 1 stays", x.restore(1), 3);
        Due.looks(x, "zab");
        Due.is("slot 0 stays", x.restore(0), 2);
        Due.looks(x, "ab");
        AnchoredNotes y = changed(1);
        Due.is("carry out", Due.carryOut(y, "+0=z"), 1);
        Due.is("undo()", y.undo(), 1);
        Due.is("what was carried out is not in the pad again", y.count(11), 0);
        AnchoredNotes z = Sheets.full();
        z.undo();
        Due.is("a full pad stays full", z.put('a'), -4);
    }

    private static void undoneIsAsBefore() {
        Doc.sentence("Promise 23", "everything except the pad, the slots and the history is as it was before it.");
        AnchoredNotes x = Sheets.empty();
        int[] settings = {8, 60, 9};
        int[] first = {3, 12, 2};
        for (int setting = 0; setting < 3; setting++) {
            x.set(setting, settings[setting]);
        }
        for (int setting = 2; setting >= 0; setting--) {
            x.undo();
            Due.is("setting " + setting, x.count(8 + setting), first[setting]);
        }
        AnchoredNotes y = Sheets.text("abab");
        y.note(2, 3);
        y.erase(2, 3);
        Due.is("reclaim(0)", y.reclaim(0), 0);
        Due.is("undo() of reclaim()", y.undo(), 3);
        Due.is("an orphan again", y.of(0, 0), 1);
        Due.is("undo() of erase()", y.undo(), 2);
        Due.is("its letters are the same ones as before", y.at(2) + y.at(3), 2);
        Due.is("and not those by which it was reclaimed", y.at(0) + y.at(1), 0);
        Due.is("undo() of note()", y.undo(), 1);
        Due.is("at(2)", y.at(2), 0);
        Due.is("of(0, 0)", y.of(0, 0), -1);
    }

    private static void undoOfFullRows() {
        Doc.sentence("Promise 23", "everything except the pad, the slots and the history is as it was before it.");
        String full = Same.sheet(Sheets.full());
        AnchoredNotes x = Sheets.full();
        Due.is("erase all", x.erase(0, 59), 15);
        Due.is("undo()", x.undo(), 5);
        Due.holds("60 letters again", Same.sheet(x).equals(full));
        AnchoredNotes y = Sheets.full();
        Due.is("drop(0)", y.drop(0), 2);
        Due.is("undo()", y.undo(), 5);
        Due.holds("16 notes again", Same.sheet(y).equals(full));
        AnchoredNotes z = Sheets.letters(59);
        z.write(59, 0);
        z.undo();
        Due.is("59 letters again", z.count(0), 59);
        Due.is("letter(59)", z.letter(59), -1);
        Due.is("there is room again", z.write(0, 0), 60);
        AnchoredNotes w = Sheets.notes("a", 16, 0, 0);
        w.undo();
        Due.is("15 notes again", w.count(1), 15);
        Due.is("at(0)", w.at(0), 0x7fff);
        Due.is("there is room again", w.reply(0), 15);
    }

    // -- promise 24

    private static void slotsToSave() {
        Doc.sentence("Promise 24", "`slot`: 0 or 1");
        for (Supplier<AnchoredNotes> made : Sheets.ALL) {
            Due.is("save(0)", made.get().save(0), made.get().count(0));
            Due.is("save(1)", made.get().save(1), made.get().count(0));
        }
        Doc.sentence("Promise 24", "BAD_VALUE if there is no such slot");
        for (int slot : new int[] {MIN, -1, 2, 32, MAX}) {
            for (Supplier<AnchoredNotes> made : Sheets.ALL) {
                Same.refused("save(" + slot + ")", made, x -> x.save(slot), BAD_VALUE);
            }
        }
    }

    private static void lengthBySave() {
        Doc.sentence("Promise 24", "Returns the length of the text");
        Due.is("an empty text", Sheets.empty().save(0), 0);
        Due.is("one letter", Sheets.letters(1).save(1), 1);
        Due.is("60 letters", Sheets.letters(60).save(0), 60);
    }

    private static void saveOverwrites() {
        Doc.sentence("Promise 24", "in a slot, and overwrites what was saved there");
        String full = Same.sheet(Sheets.full());
        AnchoredNotes x = Sheets.full();
        x.save(0);
        x.save(1);
        x.erase(0, 59);
        Due.is("save(0)", x.save(0), 0);
        Due.is("restore(1), the other slot", x.restore(1), 60);
        Due.is("restore(0), overwritten by an empty text", x.restore(0), 0);
        Due.is("letters", x.count(0), 0);
        AnchoredNotes y = Sheets.full();
        y.erase(0, 59);
        y.save(0);
        y.undo();
        Due.is("save(0), overwritten by a full text", y.save(0), 60);
        y.drop(0);
        Due.is("restore(0)", y.restore(0), 60);
        Due.holds("all is as it was saved", full.equals(Same.sheet(y)));
    }

    private static void saveIsNoChange() {
        Doc.sentence("Promise 24", "Saves everything except the pad, the history and the slots in a slot");
        AnchoredNotes x = Sheets.empty();
        Due.put(x, "r0");
        Due.is("save(0)", x.save(0), 0);
        Due.is("changes", x.count(12), 0);
        x.wipe();
        Due.put(x, "x0;");
        x.set(0, 0);
        Due.is("restore(0)", x.restore(0), 0);
        Due.is("the pad is as it is", x.count(11), 3);
        Due.is("the history, too, and one more", x.count(12), 2);
        AnchoredNotes y = Sheets.full();
        Due.is("save(0)", y.save(0), 60);
        Due.is("the history is full as before", y.undo(), 5);
    }

    // -- promise 25

    private static void slotsToRestore() {
        Doc.sentence("Promise 25", "BAD_VALUE if there is no such slot");
        for (int slot : new int[] {MIN, -1, 2, 32, MAX}) {
            for (Supplier<AnchoredNotes> made : Sheets.ALL) {
                // Of several errors the first one: nothing was saved there either.
                Same.refused("restore(" + slot + ")", made, x -> x.restore(slot), BAD_VALUE);
            }
        }
        Doc.sentence("Promise 25", "`slot`: 0 or 1");
        Due.is("restore(0)", Sheets.full().restore(0), 60);
        Due.is("restore(1)", Sheets.full().restore(1), 60);
    }

    private static void nothingSaved() {
        Doc.sentence("Promise 25", "NOT_POSSIBLE if nothing was saved in it");
        for (int slot = 0; slot <= 1; slot++) {
            int other = slot;
            Same.refused("restore(" + slot + ")", Sheets::empty, x -> x.restore(other), NOT_POSSIBLE);
            AnchoredNotes x = Sheets.letters(3);
            Due.is("save the other", x.save(1 - slot), 3);
            Due.is("restore(" + slot + ")", x.restore(slot), NOT_POSSIBLE);
            Due.is("save(" + slot + ")", x.save(slot), 3);
            Due.is("restore(" + slot + ")", x.restore(slot), 3);
        }
        Same.refused("restore(1)", Sheets::busy, x -> x.restore(1), NOT_POSSIBLE);
        AnchoredNotes y = Sheets.empty();
        Due.is("an empty text is saved, too", y.save(0), 0);
        y.write(0, 0);
        Due.is("restore(0)", y.restore(0), 0);
        Due.is("restore(1)", y.restore(1), NOT_POSSIBLE);
    }

    private static void restoreIsAsSaved() {
        Doc.sentence("Promise 25", "Restores what was saved last in a slot");
        AnchoredNotes x = Sheets.busy();
        String saved = Same.sheet(x);
        x.save(1);
        x.set(0, 8);
        x.set(1, 60);
        x.set(2, 9);
        x.reclaim(1);
        x.drop(0);
        x.erase(0, 6);
        Due.is("restore(1)", x.restore(1), 7);
        Due.holds("all is as it was saved", Same.sheet(x).equals(saved));
        AnchoredNotes y = Sheets.text("ab");
        y.note(0, 1);
        y.save(0);
        y.erase(0, 1);
        y.save(1);
        Due.is("restore(0)", y.restore(0), 2);
        Due.is("the letters are its own again", y.at(0) + y.at(1), 2);
        Due.is("restore(1)", y.restore(1), 0);
        Due.is("it is an orphan again", y.of(0, 0), 1);
    }

    private static void restoreKeepsTheSlot() {
        Doc.sentence("Promise 25", "in a slot, which keeps it.");
        AnchoredNotes x = Sheets.busy();
        for (int time = 0; time < 8; time++) {
            Due.is("restore(0)", x.restore(0), 7);
            Due.looks(x, "abccabc");
            Due.is("note 1 is not reclaimed there", x.of(1, 0), 1);
            x.reclaim(1);
            x.erase(time % 7, time % 7);
            x.drop(0);
            x.set(0, time);
        }
        Due.is("restore(0)", x.restore(0), 7);
        Due.is("AROUND", x.count(8), 2);
    }

    private static void restoreIsAChange() {
        Doc.sentence("Promise 25", "This is a change.");
        AnchoredNotes x = Sheets.empty();
        x.save(0);
        for (int change = 1; change <= 7; change++) {
            Due.is("restore(0)", x.restore(0), 0);
            Due.is("changes", x.count(12), Math.min(6, change));
        }
        AnchoredNotes y = Sheets.text("ab");
        y.save(0);
        y.erase(0, 1);
        y.restore(0);
        Due.looks(y, "ab");
        Due.is("undo() of restore()", y.undo(), 2);
        Due.looks(y, "");
        Due.is("the slot stays", y.restore(0), 2);
    }

    private static void restoreOfFullRows() {
        Doc.sentence("Promise 25", "Returns the length of the text then");
        AnchoredNotes x = Sheets.full();
        x.save(0);
        Due.is("erase all", x.erase(0, 59), 15);
        Due.is("restore(0)", x.restore(0), 60);
        Due.holds("all is as it was saved", Same.sheet(x).equals(Same.sheet(Sheets.full())));
        AnchoredNotes y = Sheets.empty();
        y.save(1);
        Sheets.orders(y, "+0=" + Sheets.alphabet(60));
        Due.is("restore(1)", y.restore(1), 0);
        Due.is("letter(0)", y.letter(0), -1);
        Due.is("letters", y.count(0), 0);
        Due.is("undo()", y.undo(), 1);
        Due.looks(y, Sheets.alphabet(60));
    }
}
