/** Promises 6 to 9 and 11 to 13: note, reply, drop, reclaim, of, word, at. */
public final class NotesTest {
    public static void main(String[] args) {
        note();
        noteIsFull();
        reply();
        drop();
        dropMovesUp();
        dropOfAllAtAPlace();
        reclaim();
        reclaimRemembersAnew();
        reclaimErrors();
        ofStanding();
        ofPieces();
        ofReplies();
        lettersThatLookAlike();
        word();
        at();
        Due.close();
    }

    private static void note() {
        AnchoredNotes x = Due.text("abcd");
        Due.is("note(0, 4)", x.note(0, 4), -1);
        Due.is("note(-1, 0)", x.note(-1, 0), -1);
        Due.is("note(4, 0): the place comes first", x.note(4, 0), -1);
        Due.is("note(2, 1)", x.note(2, 1), -2);
        Due.is("notes after errors", x.count(1), 0);
        Due.is("note(0, 3)", x.note(0, 3), 0);
        Due.is("note(0, 3) once more", x.note(0, 3), 1);
        Due.is("note(2, 2)", x.note(2, 2), 2);
        Due.is("notes", x.count(1), 3);
        Due.is("without letters", new AnchoredNotes().note(0, 0), -1);
    }

    private static void noteIsFull() {
        AnchoredNotes x = Due.text("ab");
        for (int note = 0; note < 15; note++) {
            Due.is("note(0, 1)", x.note(0, 1), note);
        }
        Due.is("the 16th one", x.reply(0), 15);
        Due.is("a 17th note", x.note(0, 1), -4);
        Due.is("a 17th note with a wrong passage", x.note(1, 0), -2);
        Due.is("a 17th note with no place", x.note(0, 2), -1);
        Due.is("a 17th reply", x.reply(15), -4);
        Due.is("a reply to none", x.reply(16), -1);
        Due.is("all notes at a place", x.at(0), 0x7fff);
    }

    private static void reply() {
        AnchoredNotes x = Due.text("abc");
        Due.is("reply(0) without notes", x.reply(0), -1);
        x.note(1, 2);
        Due.is("reply(1)", x.reply(1), -1);
        Due.is("reply(-1)", x.reply(-1), -1);
        Due.is("reply(0)", x.reply(0), 1);
        Due.is("a reply to a reply", x.reply(1), 2);
        Due.is("a second reply", x.reply(0), 3);
        Due.is("replies", x.count(3), 3);
    }

    private static void drop() {
        AnchoredNotes x = Due.text("abc");
        Due.is("drop(0) without notes", x.drop(0), -1);
        x.note(0, 0);
        x.reply(0);
        x.note(1, 1);
        x.reply(1);
        x.reply(2);
        x.reply(3);
        Due.is("drop(-1)", x.drop(-1), -1);
        Due.is("drop(6)", x.drop(6), -1);
        Due.is("a reply with those to it", x.drop(1), 3);
        Due.is("notes", x.count(1), 3);
        Due.is("the reply that stays", x.of(2, 6), 1);
        Due.is("the first note", x.drop(0), 1);
        Due.is("the second one with its reply", x.drop(0), 2);
        Due.is("notes", x.count(1), 0);
    }

    private static void dropMovesUp() {
        AnchoredNotes x = Due.text("abcdef");
        x.note(0, 1);
        x.note(1, 2);
        x.note(2, 3);
        x.reply(2);
        x.reply(1);
        x.reply(3);
        Due.is("drop(1)", x.drop(1), 2);
        Due.is("at(0)", x.at(0), 1);
        Due.is("at(1)", x.at(1), 1);
        Due.is("at(2)", x.at(2), 2);
        Due.is("at(3)", x.at(3), 2);
        Due.holds("its words", Due.words(x, 1).equals("cd"));
        Due.is("its reply", x.of(2, 6), 1);
        Due.is("the reply to that", x.of(3, 6), 2);
        Due.is("its place", x.of(3, 1), 2);
        Due.is("a note that comes then", x.note(5, 5), 4);
        Due.holds("its words", Due.words(x, 4).equals("f"));
        Due.is("at(5)", x.at(5), 16);
        Due.is("at(1) is as before", x.at(1), 1);
    }

    private static void dropOfAllAtAPlace() {
        AnchoredNotes x = Due.text("abcdef");
        for (int note = 0; note < 6; note++) {
            x.note(0, note);
        }
        Due.is("drop(2)", x.drop(2), 1);
        int[] sets = {31, 30, 28, 28, 24, 16};
        for (int place = 0; place < sets.length; place++) {
            Due.is("at(" + place + ")", x.at(place), sets[place]);
        }
    }

    private static void reclaim() {
        AnchoredNotes x = Due.text("xabyabzab");
        x.note(4, 5);
        Due.is("erase the passage", x.erase(4, 5), 1);
        Due.looks(x, "xabyzab");
        Due.is("erase what was behind", x.erase(4, 4), 0);
        Due.append(x, "y");
        Due.looks(x, "xabyaby");
        Due.is("the place with the greatest likeness", x.could(0, 0), 4);
        Due.is("its likeness: yba ahead, nothing behind", x.could(0, 1), 3);
        Due.is("reclaim(0)", x.reclaim(0), 4);
        Due.is("it stands", x.of(0, 0), 0);
        Due.is("at(4)", x.at(4), 1);
        Due.is("at(6)", x.at(6), 0);

        AnchoredNotes z = Due.text("abab");
        z.set(0, 0);
        z.note(2, 3);
        z.erase(2, 3);
        z.write(0, 25);
        z.write(3, 0);
        z.write(4, 1);
        Due.looks(z, "zabab");
        Due.is("of several the first one", z.reclaim(0), 1);
        Due.is("the letters are those there", z.at(1), 1);
        Due.is("and not those at another place", z.at(3), 0);
    }

    private static void reclaimRemembersAnew() {
        AnchoredNotes x = Due.text("abcxdef");
        x.note(3, 3);
        x.erase(3, 3);
        Due.append(x, "hix");
        Due.append(x, "jk");
        Due.looks(x, "abcdefhixjk");
        x.set(0, 1);
        Due.is("likeness of no letter", x.could(0, 1), 0);
        Due.is("reclaim(0)", x.reclaim(0), 8);
        x.set(0, 8);
        x.erase(8, 8);
        x.write(8, 23);
        Due.is("one letter on each side is remembered, as AROUND was", x.could(0, 1), 2);
        Due.is("reclaim(0)", x.reclaim(0), 8);
        x.erase(8, 8);
        x.write(8, 23);
        Due.is("eight ahead and all that are behind", x.could(0, 1), 10);
    }

    private static void reclaimErrors() {
        AnchoredNotes x = Due.text("aba");
        Due.is("reclaim(0) without notes", x.reclaim(0), -1);
        x.note(0, 1);
        x.reply(0);
        Due.is("reclaim(2)", x.reclaim(2), -1);
        Due.is("reclaim(-1)", x.reclaim(-1), -1);
        Due.is("a note that stands", x.reclaim(0), -5);
        Due.is("a reply", x.reclaim(1), -5);
        x.erase(0, 1);
        Due.is("a reply to an orphan", x.reclaim(1), -5);
        Due.is("the text is too short", x.reclaim(0), -5);
        int changes = x.count(12);
        Due.is("no such place", x.reclaim(0), -5);
        Due.is("an error is no change", x.count(12), changes);
        x.write(0, 1);
        x.write(0, 0);
        Due.is("there is one", x.reclaim(0), 0);
        Due.is("it has the new letters", x.of(0, 4), 2);
    }

    private static void ofStanding() {
        AnchoredNotes x = Due.text("abcdef");
        Due.is("of(0, 0)", x.of(0, 0), -1);
        Due.is("of(0, 9): the note comes first", x.of(0, 9), -1);
        x.note(1, 3);
        int[] there = {0, 1, 3, 3, 3, 1, -6, 0, 0};
        for (int what = 0; what < there.length; what++) {
            Due.is("of(0, " + what + ")", x.of(0, what), there[what]);
        }
        Due.is("of(0, -1)", x.of(0, -1), -2);
        Due.is("of(0, 9)", x.of(0, 9), -2);
        Due.is("of(1, 0)", x.of(1, 0), -1);
        Due.is("of(-1, 0)", x.of(-1, 0), -1);
        x.erase(0, 5);
        int[] gone = {1, -6, -6, 3, 0, 0, -6, 0, 0};
        for (int what = 0; what < gone.length; what++) {
            Due.is("of(0, " + what + ") of an orphan", x.of(0, what), gone[what]);
        }
    }

    private static void ofPieces() {
        AnchoredNotes x = Due.text("abcdef");
        x.note(0, 5);
        x.write(2, 25);
        Due.is("ab-cdef: from", x.of(0, 1), 3);
        Due.is("ab-cdef: to", x.of(0, 2), 6);
        x.write(5, 25);
        Due.looks(x, "abzcdzef");
        Due.is("ab-cd-ef: pieces", x.of(0, 5), 3);
        Due.is("ab-cd-ef: from", x.of(0, 1), 0);
        Due.is("ab-cd-ef: to", x.of(0, 2), 1);
        x.erase(0, 0);
        Due.looks(x, "bzcdzef");
        Due.is("b-cd-ef: from", x.of(0, 1), 2);
        Due.is("b-cd-ef: to", x.of(0, 2), 3);
        Due.is("b-cd-ef: letters", x.of(0, 4), 5);
        Due.is("b-cd-ef: words", x.of(0, 3), 6);
        Due.is("joined in another order", x.move(5, 6, 0), 1);
        Due.looks(x, "efbzcdz");
        Due.is("efb-cd: pieces", x.of(0, 5), 2);
        Due.is("efb-cd: from", x.of(0, 1), 0);
        Due.is("efb-cd: to", x.of(0, 2), 2);
        Due.is("notes in several pieces", x.count(4), 1);
    }

    private static void ofReplies() {
        AnchoredNotes x = Due.text("abc");
        x.note(0, 0);
        x.note(1, 2);
        x.reply(1);
        x.reply(2);
        x.reply(1);
        int[] deep = {2, 1, 2, -6, -6, -6, 2, 0, 2};
        for (int what = 0; what < deep.length; what++) {
            Due.is("of(3, " + what + ") of a reply", x.of(3, what), deep[what]);
        }
        Due.is("of(3, 9)", x.of(3, 9), -2);
        Due.is("replies to the note, and to these", x.of(1, 7), 3);
        Due.is("replies to the reply", x.of(2, 7), 1);
        Due.is("replies to the other note", x.of(0, 7), 0);
        Due.is("depth", x.of(4, 8), 1);
        x.erase(1, 2);
        Due.is("how a reply to an orphan is", x.of(3, 0), 2);
        Due.is("where it stands", x.of(3, 1), -6);
        Due.is("where it stands", x.of(3, 2), -6);
        Due.is("orphans", x.count(2), 1);
        chain();
    }

    private static void chain() {
        AnchoredNotes x = Due.text("ab");
        x.note(1, 1);
        for (int note = 1; note < 16; note++) {
            x.reply(note - 1);
        }
        Due.is("the longest chain", x.of(15, 8), 15);
        Due.is("where its end stands", x.of(15, 1), 1);
        Due.is("its replies", x.of(0, 7), 15);
        Due.is("dropped in its midst", x.drop(8), 8);
        Due.is("its replies then", x.of(0, 7), 7);
    }

    private static void lettersThatLookAlike() {
        AnchoredNotes x = Due.text("aaa");
        x.note(1, 1);
        x.erase(1, 1);
        x.write(1, 0);
        Due.is("a letter that is written again is another one", x.of(0, 0), 1);
        Due.is("none of the letters there is its own", x.at(0) | x.at(1) | x.at(2), 0);
        x.undo();
        x.undo();
        Due.is("undone, it is its letter again", x.at(1), 1);
        x.move(1, 1, 2);
        Due.is("moved, it stays its letter", x.at(2), 1);
    }

    private static void word() {
        AnchoredNotes x = Due.text("zyx");
        Due.is("word(0, 0)", x.word(0, 0), -1);
        x.note(0, 1);
        x.reply(0);
        Due.is("word(0, 0)", x.word(0, 0), 25);
        Due.is("word(0, 1)", x.word(0, 1), 24);
        Due.is("word(0, 2)", x.word(0, 2), -1);
        Due.is("word(0, -1)", x.word(0, -1), -1);
        Due.is("word(1, 0)", x.word(1, 0), -6);
        Due.is("word(1, 5): a reply has no words that could be too short", x.word(1, 5), -6);
        Due.is("word(2, 0)", x.word(2, 0), -1);
        Due.is("word(-1, 0)", x.word(-1, 0), -1);
        x.erase(0, 0);
        x.move(0, 0, 1);
        Due.is("words stay as they were", x.word(0, 0), 25);
        x.drop(0);
        x.note(0, 0);
        Due.is("the words of another note", x.word(0, 0), 23);
        Due.is("of its length", x.word(0, 1), -1);
    }

    private static void at() {
        AnchoredNotes x = Due.text("abcd");
        x.note(0, 1);
        x.reply(0);
        x.note(1, 2);
        int[] sets = {1, 5, 4, 0};
        for (int place = 0; place < sets.length; place++) {
            Due.is("at(" + place + ")", x.at(place), sets[place]);
        }
        Due.is("at(4)", x.at(4), -1);
        Due.is("at(-1)", x.at(-1), -1);
        x.write(1, 9);
        Due.is("a letter written within is no note's", x.at(1), 0);
        Due.is("the one behind it", x.at(2), 5);
    }
}
