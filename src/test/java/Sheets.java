import java.util.List;
import java.util.function.Supplier;

/** Objects in the states from which the tests of bounds start. Each call makes a new one, the same each time. */
final class Sheets {
    static final int MOST_LETTERS = 60, MOST_NOTES = 16, MOST_CHARACTERS = 80;
    static final List<Supplier<AnchoredNotes>> ALL = List.of(Sheets::empty, Sheets::busy, Sheets::full);

    private Sheets() {
    }

    static AnchoredNotes empty() {
        return new AnchoredNotes();
    }

    /** The looks of so many letters: a to z, and from a again. */
    static String alphabet(int letters) {
        StringBuilder text = new StringBuilder();
        for (int place = 0; place < letters; place++) {
            text.append((char) ('a' + place % 26));
        }
        return text.toString();
    }

    /** A text that comes by one change. */
    static AnchoredNotes text(String letters) {
        AnchoredNotes x = new AnchoredNotes();
        if (!letters.isEmpty()) {
            orders(x, "+0=" + letters);
        }
        return x;
    }

    static AnchoredNotes letters(int letters) {
        return text(alphabet(letters));
    }

    /** So many notes to the same passage. */
    static AnchoredNotes notes(String text, int notes, int from, int to) {
        AnchoredNotes x = text(text);
        for (int note = 0; note < notes; note++) {
            Due.is("note " + note, x.note(from, to), note);
        }
        return x;
    }

    /** A note to the first letter with a chain of replies, so many notes in all. */
    static AnchoredNotes chain(String text, int notes) {
        AnchoredNotes x = notes(text, 1, 0, 0);
        for (int note = 1; note < notes; note++) {
            Due.is("reply " + note, x.reply(note - 1), note);
        }
        return x;
    }

    /** Carries orders out, each of which succeeds. */
    static void orders(AnchoredNotes x, String orders) {
        Due.is("carry out " + orders, Due.carryOut(x, orders), orders.split(";").length);
    }

    /** Notes of all kinds, six changes, something in the pad and in slot 0, nothing in slot 1. */
    static AnchoredNotes busy() {
        AnchoredNotes x = text("abcabcabc");
        Due.is("note 0", x.note(0, 2), 0);
        Due.is("note 1", x.note(3, 4), 1);
        Due.is("note 2, a reply", x.reply(1), 2);
        Due.is("note 1 is orphaned", x.erase(3, 4), 1);
        Due.is("AROUND was", x.set(0, 2), 3);
        Due.is("saved letters", x.save(0), 7);
        Due.is("note 0 is parted", x.move(1, 1, 4), 1);
        Due.looks(x, "accabbc");
        Due.put(x, "r0;x1");
        return x;
    }

    /** Every row is full: letters, notes, the pad, the history, the slots. */
    static AnchoredNotes full() {
        AnchoredNotes x = letters(MOST_LETTERS);
        orders(x, "n0-0;n0-0;n0-0;n0-0;n0-0;n0-0;n0-0;n0-0;n0-0;n0-0;n0-0;n0-0;n0-0;n0-0;n0-0;r0");
        Due.is("ROOM was", x.set(2, 1), 2);
        Due.is("saved letters", x.save(0), MOST_LETTERS);
        Due.is("WIDTH was", x.set(1, 1), 12);
        Due.is("saved letters", x.save(1), MOST_LETTERS);
        Due.is("AROUND was", x.set(0, 8), 3);
        Due.is("moved", x.move(0, 0, 59), 0);
        Due.put(x, "r1;r2;r3;r4;r5;r6;r7;r8;r9;r1;r2;r3;r4;r5;r6;r7;r8;r9;r1;r2;r3;r4;r5;r6;r7;r8;r9");
        return x;
    }
}
