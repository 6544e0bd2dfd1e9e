import java.util.function.Supplier;

/** The bounds of Notes and promises 6 to 8 and 11 to 13: note, reply, drop, of, word, at. */
public final class NotesBoundsTest {
    private static final int MIN = Integer.MIN_VALUE, MAX = Integer.MAX_VALUE;
    private static final int NO_SUCH = -1, BAD_VALUE = -2, TOO_MANY = -4, NONE = -6;
    /** Numbers that are no note's of three, though some are one's if bits above are lost. */
    private static final int[] NO_NOTE_OF_THREE = {MIN, -33, -32, -16, -1, 3, 16, 32, 33, 64, 1 << 16, MAX};

    public static void main(String[] args) {
        mostNotes();
        numbersMoveUp();
        passageOrReply();
        ownLetters();
        ownWords();
        around();
        aroundAtTheEnds();
        pieces();
        mostPieces();
        longestPiece();
        orphan();
        replyStands();
        noteToOneOrAll();
        numberOfNote();
        noPlaceToNote();
        noteBackwards();
        tooManyNotes();
        numberOfReply();
        noNoteToReplyTo();
        tooManyReplies();
        dropWithReplies();
        noNoteToDrop();
        whatIsAsked();
        howItIs();
        firstAndLastPlace();
        wordsLettersPieces();
        targets();
        replies();
        ways();
        noNoteToAsk();
        wrongQuestion();
        wordAtTheEnds();
        looksOfWords();
        noWord();
        wordOfAReply();
        setAtAPlace();
        noPlaceToLookAt();
        Due.close();
    }

    private static void noNote(Supplier<AnchoredNotes> made, int from, int to, int error) {
        Same.refused("note(" + from + ", " + to + ")", made, x -> x.note(from, to), error);
    }

    private static void noReply(Supplier<AnchoredNotes> made, int note, int error) {
        Same.refused("reply(" + note + ")", made, x -> x.reply(note), error);
    }

    private static void noDrop(Supplier<AnchoredNotes> made, int note, int error) {
        Same.refused("drop(" + note + ")", made, x -> x.drop(note), error);
    }

    private static void noOf(Supplier<AnchoredNotes> made, int note, int what, int error) {
        Same.refused("of(" + note + ", " + what + ")", made, x -> x.of(note, what), error);
    }

    private static void of(AnchoredNotes x, int note, int... due) {
        for (int what = 0; what < due.length; what++) {
            Due.is("of(" + note + ", " + what + ")", x.of(note, what), due[what]);
        }
    }

    private static AnchoredNotes oneAtEachOf(int letters) {
        AnchoredNotes x = Sheets.letters(letters);
        for (int note = 0; note < letters; note++) {
            x.note(note, note);
        }
        return x;
    }

    // -- Notes

    private static void mostNotes() {
        Doc.sentence("Notes", "There are up to 16 notes");
        AnchoredNotes x = Sheets.notes("ab", 15, 0, 0);
        Due.is("the 16th one", x.note(1, 1), 15);
        Due.is("the 17th one", x.note(1, 1), TOO_MANY);
        Due.is("a reply as the 17th one", x.reply(15), TOO_MANY);
        Due.is("notes", x.count(1), 16);
        AnchoredNotes y = Sheets.chain("ab", 15);
        Due.is("a reply as the 16th one", y.reply(14), 15);
        Due.is("a reply as the 17th one", y.reply(15), TOO_MANY);
        Due.is("a note as the 17th one", y.note(0, 0), TOO_MANY);
        Due.is("an order of a 17th one", Due.carryOut(y, "n0-0"), 0);
        Due.is("notes", y.count(1), 16);
    }

    private static void numbersMoveUp() {
        Doc.sentence("Notes", "numbered in the order in which they came (when some are dropped, those behind them move up)");
        for (int dropped : new int[] {0, 8, 15}) {
            AnchoredNotes x = oneAtEachOf(16);
            Due.is("drop(" + dropped + ")", x.drop(dropped), 1);
            for (int note = 0; note < 15; note++) {
                int came = note < dropped ? note : note + 1;
                Due.is("words of " + note, x.word(note, 0), came);
                Due.is("where it stands", x.of(note, 1), came);
                Due.is("at its place", x.at(came), 1 << note);
            }
            Due.is("at the place of the one that was dropped", x.at(dropped), 0);
            Due.is("of(15, 0)", x.of(15, 0), NO_SUCH);
        }
        AnchoredNotes y = oneAtEachOf(1);
        Due.is("the only one", y.drop(0), 1);
        Due.is("of(0, 0)", y.of(0, 0), NO_SUCH);
        Due.is("at(0)", y.at(0), 0);
        Due.is("the next one", y.note(0, 0), 0);
        repliesMoveUp();
    }

    private static void repliesMoveUp() {
        AnchoredNotes x = Sheets.text("abc");
        // 0, 1, 2 are notes, 3 and 5 are replies to 0, 4 and 6 to 1, 7 to 2.
        Sheets.orders(x, "n0-0;n1-1;n2-2;r0;r1;r0;r1;r2");
        Due.is("drop(1) and what replies to it", x.drop(1), 3);
        int[] targets = {NONE, NONE, 0, 0, 1};
        for (int note = 0; note < targets.length; note++) {
            Due.is("of(" + note + ", 6)", x.of(note, 6), targets[note]);
        }
        Due.is("drop(0) and what replies to it", x.drop(0), 3);
        Due.is("of(0, 6)", x.of(0, 6), NONE);
        Due.is("of(1, 6)", x.of(1, 6), 0);
        Due.is("where the reply stands", x.of(1, 1), 2);
    }

    private static void ownLetters() {
        Doc.sentence("Notes", "A note with a passage has the letters of the places from one to another, as they were when it came, or was reclaimed: its letters.");
        AnchoredNotes x = Sheets.notes("abcd", 1, 1, 2);
        int[] sets = {0, 1, 1, 0};
        for (int place = 0; place < sets.length; place++) {
            Due.is("at(" + place + ")", x.at(place), sets[place]);
        }
        x.write(1, 25);
        Due.is("one written directly ahead of them", x.at(1), 0);
        x.write(4, 25);
        Due.is("one written directly behind them", x.at(4), 0);
        x.write(3, 25);
        Due.is("one written between them", x.at(3), 0);
        Due.looks(x, "azbzczd");
        Due.is("its letters", x.of(0, 4), 2);
        AnchoredNotes y = Sheets.notes("abcd", 1, 0, 3);
        Due.is("the whole text", y.at(0) + y.at(1) + y.at(2) + y.at(3), 4);
        y.erase(0, 3);
        Due.is("words written again", Due.carryOut(y, "+0=zabcdz"), 1);
        Due.is("reclaim(0)", y.reclaim(0), 1);
        int[] reclaimed = {0, 1, 1, 1, 1, 0};
        for (int place = 0; place < reclaimed.length; place++) {
            Due.is("at(" + place + "), reclaimed", y.at(place), reclaimed[place]);
        }
    }

    private static void passageOrReply() {
        Doc.sentence("Notes", "A note has a passage or is a reply to another note.");
        AnchoredNotes x = Sheets.busy();
        for (int note = 0; note < 3; note++) {
            Due.holds("note " + note + " has words, or a note to which it replies", x.of(note, 3) > 0 != x.of(note, 6) >= 0);
            Due.is("replies alone are in no set", Integer.bitCount(x.at(0) & 1 << note), note == 0 ? 1 : 0);
        }
    }

    private static void ownWords() {
        Doc.sentence("Notes", "It remembers how these look, in their order (its words)");
        AnchoredNotes x = Sheets.notes("abcd", 1, 0, 3);
        Due.holds("the whole text", Due.words(x, 0).equals("abcd"));
        x.move(3, 3, 0);
        x.erase(1, 2);
        x.write(1, 25);
        Due.looks(x, "dzc");
        Due.holds("they stay when its letters are moved and erased", Due.words(x, 0).equals("abcd"));
        x.erase(0, 2);
        Due.holds("they stay when there is no letter any more", Due.words(x, 0).equals("abcd"));
        AnchoredNotes y = Sheets.notes("dzc", 1, 1, 1);
        Due.holds("one letter", Due.words(y, 0).equals("z"));
        String all = Sheets.alphabet(60);
        Due.holds("60 letters", Due.words(Sheets.notes(all, 1, 0, 59), 0).equals(all));
    }

    /** The likeness after the passage of one letter was erased, and the same look written there again. */
    private static int likenessOf(String text, int place, int around) {
        AnchoredNotes x = Sheets.text(text);
        x.set(0, around);
        x.note(place, place);
        int look = x.letter(place);
        x.set(0, 8 - around);
        x.erase(place, place);
        x.write(place, look);
        Due.is("it could stand there again", x.could(0, 0), place);
        return x.could(0, 1);
    }

    private static void around() {
        Doc.sentence("Notes", "how the letters look that stood directly ahead of them and directly behind them then, up to AROUND on each side");
        for (int around = 0; around <= 8; around++) {
            Due.is("AROUND " + around + ", ten on each side", likenessOf("aaaaaaaaaazbbbbbbbbbb", 10, around), 2 * around);
            String exact = "a".repeat(around) + "z" + "b".repeat(around);
            Due.is("AROUND " + around + ", as many on each side", likenessOf(exact, around, around), 2 * around);
        }
    }

    private static void aroundAtTheEnds() {
        Doc.sentence("Notes", "(fewer at the ends of the text)");
        for (int ahead = 0; ahead <= 9; ahead++) {
            String text = "a".repeat(ahead) + "z" + "b".repeat(9 - ahead);
            int due = Math.min(ahead, 8) + Math.min(9 - ahead, 8);
            Due.is(ahead + " ahead, AROUND 8", likenessOf(text, ahead, 8), due);
            int dueOfThree = Math.min(ahead, 3) + Math.min(9 - ahead, 3);
            Due.is(ahead + " ahead, AROUND 3", likenessOf(text, ahead, 3), dueOfThree);
        }
        Due.is("the only letter", likenessOf("z", 0, 8), 0);
        String most = "b".repeat(59);
        Due.is("the first one of 60", likenessOf("z" + most, 0, 8), 8);
        Due.is("the last one of 60", likenessOf(most + "z", 59, 8), 8);
    }

    private static void pieces() {
        Doc.sentence("Notes", "Its pieces are the longest rows of places, one directly behind the other, all whose letters are its own (in whatever order).");
        Due.is("one letter", Sheets.notes("abc", 1, 1, 1).of(0, 5), 1);
        AnchoredNotes x = Sheets.notes("abc", 1, 0, 2);
        Due.is("the whole text", x.of(0, 5), 1);
        x.move(0, 0, 2);
        Due.is("in another order", x.of(0, 5), 1);
        x.move(0, 0, 1);
        Due.is("the other way round", x.of(0, 5), 1);
        Due.is("its first place", x.of(0, 1), 0);
        Due.is("its last place", x.of(0, 2), 2);
        x.write(0, 0);
        x.write(4, 0);
        Due.is("others at both ends", x.of(0, 5), 1);
        x.write(2, 0);
        Due.is("one letter between", x.of(0, 5), 2);
        x.write(2, 0);
        Due.is("two letters between", x.of(0, 5), 2);
        x.erase(2, 2);
        Due.is("one of them erased", x.of(0, 5), 2);
        x.erase(2, 2);
        Due.is("both erased", x.of(0, 5), 1);
        AnchoredNotes y = Sheets.notes("abc", 1, 0, 2);
        y.erase(1, 1);
        Due.is("its own one between them erased", y.of(0, 5), 1);
        AnchoredNotes z = Sheets.text("abcd");
        z.note(0, 1);
        z.note(2, 3);
        z.move(1, 1, 2);
        Due.looks(z, "acbd");
        Due.is("letters of two notes by turns", z.of(0, 5) * 10 + z.of(1, 5), 22);
    }

    private static void mostPieces() {
        Doc.sentence("Notes", "Its pieces are the longest rows of places, one directly behind the other, all whose letters are its own (in whatever order).");
        AnchoredNotes x = Sheets.notes(Sheets.alphabet(30), 1, 0, 29);
        for (int piece = 1; piece < 30; piece++) {
            x.write(2 * piece - 1, 25);
            Due.is("pieces", x.of(0, 5), piece + 1);
        }
        Due.is("a letter behind the last place", x.write(59, 25), 60);
        Due.is("30 pieces in 60 letters", x.of(0, 5), 30);
        Due.is("it stands at the first one", x.of(0, 1) * 10 + x.of(0, 2), 0);
    }

    private static void longest(String text, String orders, int first, int last) {
        AnchoredNotes x = Sheets.notes(text, 1, 0, text.length() - 1);
        Sheets.orders(x, orders);
        Due.is("the first place after " + orders, x.of(0, 1), first);
        Due.is("the last place after " + orders, x.of(0, 2), last);
    }

    private static void longestPiece() {
        Doc.sentence("Notes", "It stands at the piece with the most letters, of several at the first one.");
        longest("ab", "+1=z", 0, 0);
        longest("abc", "+1=z", 2, 3);
        longest("abc", "+2=z", 0, 1);
        longest("abcd", "+2=z", 0, 1);
        longest("abcde", "+2=z", 3, 5);
        longest("abcde", "+3=z", 0, 2);
        longest("abcdef", "+2=z;+5=z", 0, 1);
        longest("abcde", "+1=z;+4=z", 2, 3);
        longest("abcdef", "+1=z;+4=z", 5, 7);
        longest("abcdef", "+1=z;+3=z", 4, 7);
        longest("abcdef", "+1=z;+4=z;-2-2", 4, 6);
        longest("abcdefg", "+3=z;-0-0", 3, 6);
        longest("abcdefg", "+3=z;-0-0;-4-5", 0, 1);
    }

    private static void orphan() {
        Doc.sentence("Notes", "If none of its letters is there any more, it is an orphan.");
        int[][] erased = {{0, 1}, {1, 2}};
        for (int[] most : erased) {
            AnchoredNotes x = Sheets.notes("abcd", 1, 0, 2);
            Due.is("all but one are erased", x.erase(most[0], most[1]), 0);
            Due.is("it stands", x.of(0, 0), 0);
            Due.is("where", x.of(0, 1) + x.of(0, 2), 0);
            Due.is("the last one is erased", x.erase(0, 0), 1);
            Due.is("it is an orphan", x.of(0, 0), 1);
            Due.looks(x, "d");
        }
        AnchoredNotes y = Sheets.notes("abc", 1, 1, 1);
        Due.is("its only letter", y.erase(1, 1), 1);
        Due.is("it is an orphan", y.of(0, 0), 1);
        AnchoredNotes z = Sheets.notes("abc", 1, 1, 1);
        Due.is("those around it", z.erase(0, 0) + z.erase(1, 1), 0);
        Due.is("it stands", z.of(0, 0), 0);
    }

    private static void replyStands() {
        Doc.sentence("Notes", "A reply stands where the note stands to which it is a reply.");
        AnchoredNotes x = Sheets.chain("abc", 16);
        Due.is("the 15th reply", x.of(15, 1) * 10 + x.of(15, 2), 0);
        x.move(0, 0, 2);
        Due.is("it goes with the note", x.of(15, 1) * 10 + x.of(15, 2), 22);
        x.erase(2, 2);
        Due.is("of an orphan", x.of(15, 1), NONE);
        Due.is("of an orphan", x.of(15, 2), NONE);
        x.write(0, 0);
        Due.is("reclaim(0)", x.reclaim(0), 0);
        Due.is("it stands again", x.of(15, 1) * 10 + x.of(15, 2), 0);
        AnchoredNotes y = Sheets.notes("abc", 1, 0, 2);
        y.reply(0);
        y.write(1, 25);
        Due.is("at the longest piece: from", y.of(1, 1), 2);
        Due.is("at the longest piece: to", y.of(1, 2), 3);
    }

    // -- promise 6

    private static void noteToOneOrAll() {
        Doc.sentence("Promise 6", "`to`: from or more");
        AnchoredNotes x = Sheets.letters(60);
        Due.is("note(0, 0)", x.note(0, 0), 0);
        Due.is("note(59, 59)", x.note(59, 59), 1);
        Due.is("note(0, 59)", x.note(0, 59), 2);
        of(x, 0, 0, 0, 0, 1, 1, 1);
        of(x, 1, 0, 59, 59, 1, 1, 1);
        of(x, 2, 0, 0, 59, 60, 60, 1);
        Due.is("of the only letter", Sheets.text("a").note(0, 0), 0);
    }

    private static void numberOfNote() {
        Doc.sentence("Promise 6", "Returns its number");
        AnchoredNotes x = Sheets.text("ab");
        for (int note = 0; note < 16; note++) {
            Due.is("note(1, 1)", x.note(1, 1), note);
        }
        Due.is("drop(0)", x.drop(0), 1);
        Due.is("the next one is the 16th again", x.note(1, 1), 15);
        AnchoredNotes y = Sheets.text("ab");
        y.note(0, 0);
        y.reply(0);
        Due.is("behind a reply", y.note(0, 0), 2);
    }

    private static void noPlaceToNote() {
        Doc.sentence("Promise 6", "NO_SUCH if there is no such place");
        noNote(Sheets::empty, 0, 0, NO_SUCH);
        int[][] wrong = {{-1, 0}, {-1, -1}, {7, 7}, {0, 7}, {6, 7}, {MIN, 0}, {0, MAX}, {MIN, MAX}, {MAX, MAX}};
        for (int[] passage : wrong) {
            noNote(Sheets::busy, passage[0], passage[1], NO_SUCH);
        }
        Due.is("note(6, 6) of seven letters", Sheets.busy().note(6, 6), 3);
        Due.is("note(0, 6) of seven letters", Sheets.busy().note(0, 6), 3);
    }

    private static void noteBackwards() {
        Doc.sentence("Promise 6", "BAD_VALUE if to is below from");
        noNote(Sheets::busy, 1, 0, BAD_VALUE);
        noNote(Sheets::busy, 6, 5, BAD_VALUE);
        noNote(Sheets::busy, 6, 0, BAD_VALUE);
        // Of several errors the first one.
        noNote(Sheets::busy, 7, 0, NO_SUCH);
        noNote(Sheets::busy, MAX, MIN, NO_SUCH);
        noNote(Sheets::full, 60, 59, NO_SUCH);
        noNote(Sheets::full, 0, 60, NO_SUCH);
        noNote(Sheets::full, -1, 0, NO_SUCH);
        noNote(Sheets::full, 59, 58, BAD_VALUE);
    }

    private static void tooManyNotes() {
        Doc.sentence("Promise 6", "TOO_MANY if there are 16 notes");
        noNote(Sheets::full, 0, 0, TOO_MANY);
        noNote(Sheets::full, 0, 59, TOO_MANY);
        noNote(() -> Sheets.notes("ab", 16, 0, 0), 1, 1, TOO_MANY);
        noNote(() -> Sheets.chain("ab", 16), 1, 1, TOO_MANY);
        AnchoredNotes x = Sheets.notes("ab", 16, 0, 0);
        x.erase(0, 0);
        Due.is("orphans are notes, too", x.note(0, 0), TOO_MANY);
        x.drop(7);
        Due.is("there is room for one", x.note(0, 0), 15);
        Due.is("and for no second one", x.note(0, 0), TOO_MANY);
    }

    // -- promise 7

    private static void numberOfReply() {
        Doc.sentence("Promise 7", "Returns its number");
        AnchoredNotes x = Sheets.notes("ab", 1, 0, 0);
        for (int note = 1; note < 16; note++) {
            Due.is("reply(0)", x.reply(0), note);
        }
        AnchoredNotes y = Sheets.notes("ab", 15, 0, 0);
        Due.is("reply(14), to the last one", y.reply(14), 15);
    }

    private static void noNoteToReplyTo() {
        Doc.sentence("Promise 7", "NO_SUCH if there is no such note");
        noReply(Sheets::empty, 0, NO_SUCH);
        noReply(() -> Sheets.text("abc"), 0, NO_SUCH);
        for (int note : NO_NOTE_OF_THREE) {
            noReply(Sheets::busy, note, NO_SUCH);
        }
        // Of several errors the first one.
        noReply(Sheets::full, 16, NO_SUCH);
        noReply(Sheets::full, -1, NO_SUCH);
        Due.is("reply(0), to one that stands", Sheets.busy().reply(0), 3);
        Due.is("reply(1), to an orphan", Sheets.busy().reply(1), 3);
        Due.is("reply(2), to a reply", Sheets.busy().reply(2), 3);
    }

    private static void tooManyReplies() {
        Doc.sentence("Promise 7", "TOO_MANY if there are 16 notes");
        noReply(Sheets::full, 0, TOO_MANY);
        noReply(Sheets::full, 15, TOO_MANY);
        noReply(() -> Sheets.chain("ab", 16), 15, TOO_MANY);
        AnchoredNotes x = Sheets.chain("ab", 16);
        Due.is("drop(15)", x.drop(15), 1);
        Due.is("there is room for one", x.reply(14), 15);
        Due.is("and for no second one", x.reply(14), TOO_MANY);
    }

    // -- promise 8

    private static void dropWithReplies() {
        Doc.sentence("Promise 8", "Drops a note with all replies to it, to these, and so on.");
        for (int note = 0; note < 16; note++) {
            AnchoredNotes x = Sheets.chain("ab", 16);
            Due.is("drop(" + note + ") of a chain of 16", x.drop(note), 16 - note);
            Due.is("notes", x.count(1), note);
            Due.is("replies", x.count(3), Math.max(0, note - 1));
        }
        AnchoredNotes y = Sheets.notes("ab", 16, 0, 0);
        Due.is("drop(0) of 16 without replies", y.drop(0), 1);
        Due.is("drop(14), the last one then", y.drop(14), 1);
        Due.is("notes", y.count(1), 14);
        Due.is("an orphan with its reply", Sheets.busy().drop(1), 2);
        Due.is("a reply without the note", Sheets.busy().drop(2), 1);
    }

    private static void noNoteToDrop() {
        Doc.sentence("Promise 8", "Returns how many are dropped; NO_SUCH if there is no such note.");
        noDrop(Sheets::empty, 0, NO_SUCH);
        noDrop(() -> Sheets.text("abc"), 0, NO_SUCH);
        for (int note : NO_NOTE_OF_THREE) {
            noDrop(Sheets::busy, note, NO_SUCH);
        }
        noDrop(Sheets::full, 16, NO_SUCH);
        noDrop(Sheets::full, -1, NO_SUCH);
        Due.is("drop(15) of 16", Sheets.full().drop(15), 1);
        Due.is("drop(0) of 16, with its reply", Sheets.full().drop(0), 2);
        AnchoredNotes x = Sheets.notes("ab", 1, 0, 0);
        x.drop(0);
        Due.is("one that was dropped", x.drop(0), NO_SUCH);
    }

    // -- promise 11

    private static void whatIsAsked() {
        Doc.sentence("Promise 11", "Returns something about a note.");
        Doc.sentence("Promise 11", "Returns the number");
        // busy(): note 0 is parted, ac at 0 and b at 4; note 1 is an orphan, note 2 a reply to it.
        of(Sheets.busy(), 0, 0, 0, 1, 3, 3, 2, NONE, 0, 0);
        of(Sheets.busy(), 1, 1, NONE, NONE, 2, 0, 0, NONE, 1, 0);
        of(Sheets.busy(), 2, 2, NONE, NONE, NONE, NONE, NONE, 1, 0, 1);
        for (int what = 0; what <= 8; what++) {
            int asked = what;
            for (int note = 0; note < 3; note++) {
                int about = note;
                Same.unchanged("of(" + note + ", " + what + ")", Sheets::busy, x -> x.of(about, asked));
            }
        }
    }

    private static void howItIs() {
        Doc.sentence("Promise 11", "`what`: 0 how it is: 0 it stands, 1 it is an orphan, 2 it is a reply");
        AnchoredNotes x = Sheets.busy();
        Due.is("it stands", x.of(0, 0), 0);
        Due.is("an orphan", x.of(1, 0), 1);
        Due.is("a reply, also to an orphan", x.of(2, 0), 2);
        AnchoredNotes y = Sheets.chain("ab", 16);
        Due.is("the 15th reply", y.of(15, 0), 2);
    }

    private static void firstAndLastPlace() {
        Doc.sentence("Promise 11", "1, 2 the first and the last place where it stands (of a reply: where its note stands; NONE for an orphan, or a reply to one)");
        AnchoredNotes x = Sheets.letters(60);
        Sheets.orders(x, "n0-0;n59-59;n0-59;r1");
        of(x, 0, 0, 0, 0);
        of(x, 1, 0, 59, 59);
        of(x, 2, 0, 0, 59);
        of(x, 3, 2, 59, 59);
        AnchoredNotes y = Sheets.busy();
        of(y, 1, 1, NONE, NONE);
        of(y, 2, 2, NONE, NONE);
    }

    private static void wordsLettersPieces() {
        Doc.sentence("Promise 11", "3 the letters of its words, 4 how many of its letters are there, 5 its pieces (3 to 5: NONE for a reply)");
        AnchoredNotes x = Sheets.notes(Sheets.alphabet(60), 1, 0, 59);
        of(x, 0, 0, 0, 59, 60, 60, 1);
        x.erase(0, 58);
        of(x, 0, 0, 0, 0, 60, 1, 1);
        x.erase(0, 0);
        of(x, 0, 1, NONE, NONE, 60, 0, 0);
        of(Sheets.busy(), 2, 2, NONE, NONE, NONE, NONE, NONE);
        of(Sheets.chain("ab", 2), 1, 2, 0, 0, NONE, NONE, NONE);
    }

    private static void targets() {
        Doc.sentence("Promise 11", "6 the note to which it is a reply (NONE)");
        AnchoredNotes x = Sheets.chain("ab", 16);
        Due.is("of(0, 6), no reply", x.of(0, 6), NONE);
        for (int note = 1; note < 16; note++) {
            Due.is("of(" + note + ", 6)", x.of(note, 6), note - 1);
        }
        Due.is("an orphan is no reply", Sheets.busy().of(1, 6), NONE);
    }

    private static void replies() {
        Doc.sentence("Promise 11", "7 the replies to it, to these, and so on");
        AnchoredNotes x = Sheets.chain("ab", 16);
        for (int note = 0; note < 16; note++) {
            Due.is("of(" + note + ", 7)", x.of(note, 7), 15 - note);
        }
        AnchoredNotes y = Sheets.text("ab");
        Sheets.orders(y, "n0-0;n1-1;r0;r1;r0;r2;r3");
        int[] due = {3, 2, 1, 1, 0, 0, 0};
        for (int note = 0; note < due.length; note++) {
            Due.is("of(" + note + ", 7) of two families", y.of(note, 7), due[note]);
        }
    }

    private static void ways() {
        Doc.sentence("Promise 11", "8 how many notes lead from it to one with a passage (0 if it has one)");
        AnchoredNotes x = Sheets.chain("ab", 16);
        for (int note = 0; note < 16; note++) {
            Due.is("of(" + note + ", 8)", x.of(note, 8), note);
        }
        Due.is("an orphan", Sheets.busy().of(1, 8), 0);
        Due.is("a reply to an orphan", Sheets.busy().of(2, 8), 1);
    }

    private static void noNoteToAsk() {
        Doc.sentence("Promise 11", "NO_SUCH if there is no such note");
        noOf(Sheets::empty, 0, 0, NO_SUCH);
        noOf(() -> Sheets.text("abc"), 0, 0, NO_SUCH);
        for (int note : NO_NOTE_OF_THREE) {
            for (int what : new int[] {0, 4, 8}) {
                noOf(Sheets::busy, note, what, NO_SUCH);
            }
            // Of several errors the first one.
            noOf(Sheets::busy, note, 9, NO_SUCH);
            noOf(Sheets::busy, note, -1, NO_SUCH);
        }
        noOf(Sheets::full, 16, 0, NO_SUCH);
        noOf(Sheets::full, 32, 0, NO_SUCH);
        Due.is("the last one of 16", Sheets.full().of(15, 0), 2);
        Due.is("the last one with a passage", Sheets.full().of(14, 0), 0);
    }

    private static void wrongQuestion() {
        Doc.sentence("Promise 11", "BAD_VALUE if what is out of range");
        for (int what : new int[] {MIN, -1, 9, 16, MAX}) {
            for (int note = 0; note < 3; note++) {
                noOf(Sheets::busy, note, what, BAD_VALUE);
            }
        }
    }

    // -- promise 12

    private static void wordAtTheEnds() {
        Doc.sentence("Promise 12", "Returns a letter of the words of a note.");
        AnchoredNotes x = Sheets.notes("z" + Sheets.alphabet(58) + "z", 1, 0, 59);
        Due.is("word(0, 0)", x.word(0, 0), 25);
        Due.is("word(0, 1)", x.word(0, 1), 0);
        Due.is("word(0, 59)", x.word(0, 59), 25);
        x.erase(0, 59);
        Due.is("word(0, 0) of an orphan", x.word(0, 0), 25);
        Due.is("word(0, 59) of an orphan", x.word(0, 59), 25);
        Due.is("the 16th one's", oneAtEachOf(16).word(15, 0), 15);
    }

    private static void looksOfWords() {
        Doc.sentence("Promise 12", "Returns 0 to 25");
        AnchoredNotes x = Sheets.notes(Sheets.alphabet(26), 1, 0, 25);
        for (int letter = 0; letter < 26; letter++) {
            Due.is("word(0, " + letter + ")", x.word(0, letter), letter);
        }
        Due.is("word(0, 26)", x.word(0, 26), NO_SUCH);
    }

    private static void noWord() {
        Doc.sentence("Promise 12", "NO_SUCH if there is no such note, or its words are not so long");
        Same.refused("word(0, 0)", Sheets::empty, x -> x.word(0, 0), NO_SUCH);
        for (int note : NO_NOTE_OF_THREE) {
            Same.refused("word(" + note + ", 0)", Sheets::busy, x -> x.word(note, 0), NO_SUCH);
        }
        for (int place : new int[] {MIN, -1, 3, 4, 60, MAX}) {
            Same.refused("word(0, " + place + ")", Sheets::busy, x -> x.word(0, place), NO_SUCH);
        }
        for (int place : new int[] {-1, 2}) {
            Same.refused("word(1, " + place + ") of an orphan", Sheets::busy, x -> x.word(1, place), NO_SUCH);
        }
        Due.is("word(0, 2), the last one", Sheets.busy().word(0, 2), 2);
        Due.is("word(1, 1), the last one of an orphan", Sheets.busy().word(1, 1), 1);
        Due.is("word(0, 59) of 60", Sheets.notes(Sheets.alphabet(60), 1, 0, 59).word(0, 59), 7);
        Due.is("word(0, 60) of 60", Sheets.notes(Sheets.alphabet(60), 1, 0, 59).word(0, 60), NO_SUCH);
        Due.is("word(0, 1) of one", Sheets.notes("abc", 1, 0, 0).word(0, 1), NO_SUCH);
    }

    private static void wordOfAReply() {
        Doc.sentence("Promise 12", "NONE if it is a reply");
        for (int place : new int[] {0, 1, 59, 60}) {
            Due.is("word(2, " + place + ")", Sheets.busy().word(2, place), NONE);
            Due.is("word(15, " + place + ")", Sheets.full().word(15, place), NONE);
        }
        AnchoredNotes x = Sheets.notes("abc", 2, 0, 2);
        x.drop(1);
        x.reply(0);
        Due.is("a reply with the number of a note that was dropped", x.word(1, 0), NONE);
        x.drop(1);
        x.note(2, 2);
        Due.is("a note with the number of a reply that was dropped", x.word(1, 0), 2);
    }

    // -- promise 13

    private static void setAtAPlace() {
        Doc.sentence("Promise 13", "Returns the notes with a passage of which a letter stands at a place, as a set.");
        Due.is("no note", Sheets.letters(60).at(59), 0);
        AnchoredNotes x = Sheets.letters(60);
        Sheets.orders(x, "n0-0;n0-0;n0-0;n0-0;n0-0;n0-0;n0-0;n0-0;n0-0;n0-0;n0-0;n0-0;n0-0;n0-0;n0-0");
        Due.is("the 16th note", x.note(0, 59), 15);
        Due.is("all 16", x.at(0), 0xffff);
        Due.is("the 16th alone", x.at(1), 0x8000);
        Due.is("the 16th alone at the last place", x.at(59), 0x8000);
        Due.is("replies are in no set", Sheets.chain("ab", 16).at(0), 1);
        Due.is("orphans are in no set", Sheets.busy().at(3), 0);
        for (int place = 0; place < 7; place++) {
            int asked = place;
            Same.unchanged("at(" + place + ")", Sheets::busy, y -> y.at(asked));
        }
    }

    private static void noPlaceToLookAt() {
        Doc.sentence("Promise 13", "Returns the set; NO_SUCH if there is no such place");
        for (int place : new int[] {MIN, -1, 0, MAX}) {
            Same.refused("at(" + place + ")", Sheets::empty, x -> x.at(place), NO_SUCH);
        }
        for (int place : new int[] {MIN, -1, 7, 8, MAX}) {
            Same.refused("at(" + place + ")", Sheets::busy, x -> x.at(place), NO_SUCH);
        }
        for (int place : new int[] {-1, 60, 64}) {
            Same.refused("at(" + place + ")", Sheets::full, x -> x.at(place), NO_SUCH);
        }
        Due.is("at(6) of seven letters", Sheets.busy().at(6), 0);
        Due.is("at(59) of 60", Sheets.full().at(59), 0x7fff);
        AnchoredNotes x = Sheets.text("abc");
        x.erase(0, 0);
        Due.is("a place that was there", x.at(2), NO_SUCH);
    }
}
