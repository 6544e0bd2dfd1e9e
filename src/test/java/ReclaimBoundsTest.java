import java.util.function.Supplier;

/** The bounds of "To reclaim" and promises 9, 16 and 17: reclaim, orphansIf, could. */
public final class ReclaimBoundsTest {
    private static final int MIN = Integer.MIN_VALUE, MAX = Integer.MAX_VALUE;
    private static final int NO_SUCH = -1, BAD_VALUE = -2, NOT_POSSIBLE = -5, NONE = -6;
    private static final int[] NO_NOTE_OF_THREE = {MIN, -33, -32, -16, -1, 3, 16, 32, 33, 64, 1 << 16, MAX};

    public static void main(String[] args) {
        placesThatLookAlike();
        allPlaces();
        likenessAhead();
        likenessBehind();
        likenessAtTheEnds();
        mostLikeness();
        greatestLikeness();
        ownAgain();
        remembersAnew();
        placeByReclaim();
        noNoteToReclaim();
        notToBeReclaimed();
        noPlaceToReclaim();
        orphansIfSets();
        orphansIfIsErase();
        orphansIfErrors();
        couldNow();
        couldPlaces();
        couldNoNote();
        couldWrongQuestion();
        couldNotPossible();
        couldNone();
        questionsChangeNothing();
        Due.close();
    }

    /** An orphan, note 0, with words and what stood around them; then another text. */
    private static AnchoredNotes orphan(String ahead, String words, String behind, String then) {
        AnchoredNotes x = Sheets.text(ahead + words + behind);
        Due.is("note", x.note(ahead.length(), ahead.length() + words.length() - 1), 0);
        Due.is("erase all", x.erase(0, x.count(0) - 1), 1);
        if (!then.isEmpty()) {
            Sheets.orders(x, "+0=" + then);
        }
        return x;
    }

    private static void could(AnchoredNotes x, int place, int likeness, int places) {
        Due.is("the place", x.could(0, 0), place);
        Due.is("its likeness", x.could(0, 1), likeness);
        Due.is("the places", x.could(0, 2), places);
    }

    private static void noReclaim(Supplier<AnchoredNotes> made, int note, int error) {
        Same.refused("reclaim(" + note + ")", made, x -> x.reclaim(note), error);
    }

    private static void noCould(Supplier<AnchoredNotes> made, int note, int what, int error) {
        Same.refused("could(" + note + ", " + what + ")", made, x -> x.could(note, what), error);
    }

    private static void noOrphansIf(Supplier<AnchoredNotes> made, int from, int to, int error) {
        Same.refused("orphansIf(" + from + ", " + to + ")", made, x -> x.orphansIf(from, to), error);
    }

    // -- To reclaim

    private static void placesThatLookAlike() {
        Doc.sentence("To reclaim", "An orphan can be reclaimed at each place from which on the text looks like its words.");
        could(orphan("", "abc", "", "abc"), 0, 0, 1);
        could(orphan("", "abc", "", "ab"), NONE, NONE, NONE);
        could(orphan("", "abc", "", "bc"), NONE, NONE, NONE);
        could(orphan("", "abc", "", ""), NONE, NONE, NONE);
        could(orphan("", "abc", "", "zabc"), 1, 0, 1);
        could(orphan("", "abc", "", "zabcz"), 1, 0, 1);
        could(orphan("", "abc", "", "zab"), NONE, NONE, NONE);
        could(orphan("", "abc", "", "bbc"), NONE, NONE, NONE);
        could(orphan("", "abc", "", "acc"), NONE, NONE, NONE);
        could(orphan("", "abc", "", "abb"), NONE, NONE, NONE);
        could(orphan("", "abc", "", "abdabc"), 3, 0, 1);
        could(orphan("", "aba", "", "ababa"), 0, 0, 2);
        could(orphan("", "a", "", "b"), NONE, NONE, NONE);
        could(orphan("", "a", "", "baa"), 1, 0, 2);
        String all = Sheets.alphabet(60);
        could(orphan("", all, "", all), 0, 0, 1);
        could(orphan("", all, "", all.substring(0, 59)), NONE, NONE, NONE);
        could(orphan("", all, "", all.substring(1)), NONE, NONE, NONE);
        could(orphan("", all, "", all.substring(0, 59) + "z"), NONE, NONE, NONE);
        could(orphan("", all.substring(1), "", all), 1, 0, 1);
        could(orphan("", all.substring(0, 59), "", all), 0, 0, 1);
    }

    private static void allPlaces() {
        Doc.sentence("To reclaim", "An orphan can be reclaimed at each place from which on the text looks like its words.");
        could(orphan("", "a", "", "a".repeat(60)), 0, 0, 60);
        could(orphan("", "aa", "", "a".repeat(60)), 0, 0, 59);
        could(orphan("", "a".repeat(60), "", "a".repeat(60)), 0, 0, 1);
    }

    private static void likenessAhead() {
        Doc.sentence("To reclaim", "The likeness of such a place is how many letters directly ahead of it look like those that it remembers ahead, one after the other going back, up to the first one that does not");
        could(orphan("abc", "x", "", "abcx"), 3, 3, 1);
        could(orphan("abc", "x", "", "zbcx"), 3, 2, 1);
        could(orphan("abc", "x", "", "zzcx"), 3, 1, 1);
        could(orphan("abc", "x", "", "abzx"), 3, 0, 1);
        could(orphan("abc", "x", "", "azcx"), 3, 1, 1);
        could(orphan("abc", "x", "", "cbax"), 3, 0, 1);
        could(orphan("abc", "xy", "", "abcxy"), 3, 3, 1);
    }

    private static void likenessBehind() {
        Doc.sentence("To reclaim", "and likewise how many directly behind, together");
        could(orphan("", "x", "abc", "xabc"), 0, 3, 1);
        could(orphan("", "x", "abc", "xabz"), 0, 2, 1);
        could(orphan("", "x", "abc", "xazz"), 0, 1, 1);
        could(orphan("", "x", "abc", "xzbc"), 0, 0, 1);
        could(orphan("", "x", "abc", "xazc"), 0, 1, 1);
        could(orphan("", "x", "abc", "xcba"), 0, 0, 1);
        could(orphan("", "xy", "abc", "xyabc"), 0, 3, 1);
        could(orphan("abc", "x", "def", "abcxdef"), 3, 6, 1);
        could(orphan("abc", "x", "def", "zbcxdez"), 3, 4, 1);
        could(orphan("abc", "x", "def", "abzxdef"), 3, 3, 1);
        could(orphan("abc", "x", "def", "abcxzef"), 3, 3, 1);
    }

    private static void likenessAtTheEnds() {
        Doc.sentence("To reclaim", "(or the end of what is remembered, or of the text)");
        could(orphan("zabc", "x", "", "zabcx"), 4, 3, 1);
        could(orphan("ab", "x", "", "zabx"), 3, 2, 1);
        could(orphan("abc", "x", "", "bcx"), 2, 2, 1);
        could(orphan("abc", "x", "", "x"), 0, 0, 1);
        could(orphan("", "x", "", "abcxdef"), 3, 0, 1);
        could(orphan("", "x", "defz", "xdefz"), 0, 3, 1);
        could(orphan("", "x", "de", "xdez"), 0, 2, 1);
        could(orphan("", "x", "def", "xde"), 0, 2, 1);
        could(orphan("", "x", "def", "x"), 0, 0, 1);
    }

    private static AnchoredNotes remembering(int around) {
        AnchoredNotes x = Sheets.text("abcdefghizjklmnopqr");
        x.set(0, around);
        x.note(9, 9);
        x.erase(9, 9);
        x.write(9, 25);
        return x;
    }

    private static void mostLikeness() {
        Doc.sentence("To reclaim", "(or the end of what is remembered, or of the text)");
        could(remembering(8), 9, 16, 1);
        could(remembering(0), 9, 0, 1);
        could(remembering(1), 9, 2, 1);
        AnchoredNotes x = remembering(8);
        x.erase(0, 0);
        could(x, 8, 16, 1);
        x.erase(0, 0);
        could(x, 7, 15, 1);
        x.erase(15, 15);
        could(x, 7, 14, 1);
    }

    private static void greatestLikeness() {
        Doc.sentence("To reclaim", "It is reclaimed at the place with the greatest likeness, of several at the first one");
        could(orphan("ab", "x", "c", "xabxcx"), 3, 3, 3);
        could(orphan("ab", "x", "c", "abxcx"), 2, 3, 2);
        could(orphan("ab", "x", "c", "xzabx"), 4, 2, 2);
        could(orphan("ab", "x", "c", "bxzbxz"), 1, 1, 2);
        could(orphan("ab", "x", "c", "bxzxc"), 1, 1, 2);
        could(orphan("ab", "x", "c", "xcbx"), 0, 1, 2);
        could(orphan("", "x", "", "zxxx"), 1, 0, 3);
        Due.is("reclaim(0), the last place of three", orphan("ab", "x", "c", "xxabx").reclaim(0), 4);
        Due.is("reclaim(0), the first place of three", orphan("ab", "x", "c", "xcxx").reclaim(0), 0);
        Due.is("reclaim(0), the first of like ones", orphan("ab", "x", "c", "bxxc").reclaim(0), 1);
    }

    private static void ownAgain() {
        Doc.sentence("To reclaim", "its letters are those there then");
        AnchoredNotes x = orphan("", "ab", "c", "ababc");
        Due.is("reclaim(0)", x.reclaim(0), 2);
        int[] sets = {0, 0, 1, 1, 0};
        for (int place = 0; place < sets.length; place++) {
            Due.is("at(" + place + ")", x.at(place), sets[place]);
        }
        Due.is("of(0, 4)", x.of(0, 4), 2);
        Due.is("of(0, 3)", x.of(0, 3), 2);
        Due.is("it is orphaned with these", x.erase(2, 3), 1);
        AnchoredNotes y = orphan("", Sheets.alphabet(60), "", Sheets.alphabet(60));
        Due.is("60 letters", y.reclaim(0), 0);
        Due.is("of(0, 4)", y.of(0, 4), 60);
        Due.is("at(59)", y.at(59), 1);
        AnchoredNotes z = Sheets.notes("ab", 16, 0, 0);
        z.erase(0, 0);
        z.write(1, 0);
        Due.is("the 16th of 16 orphans", z.reclaim(15), 1);
        Due.is("at(1)", z.at(1), 0x8000);
        Due.is("the first of them", z.reclaim(0), 1);
        Due.is("at(1)", z.at(1), 0x8001);
        Due.is("orphans", z.count(2), 14);
    }

    private static void remembersAnew() {
        Doc.sentence("To reclaim", "and it remembers anew what stands around");
        AnchoredNotes x = orphan("", "x", "", "abcdefghijxklmnopqrst");
        could(x, 10, 0, 1);
        x.set(0, 8);
        Due.is("reclaim(0), AROUND 8", x.reclaim(0), 10);
        x.erase(10, 10);
        x.write(10, 23);
        could(x, 10, 16, 1);
        x.set(0, 0);
        Due.is("reclaim(0), AROUND 0", x.reclaim(0), 10);
        x.erase(10, 10);
        x.write(10, 23);
        could(x, 10, 0, 1);
        x.set(0, 1);
        Due.is("reclaim(0), AROUND 1", x.reclaim(0), 10);
        x.erase(10, 10);
        x.write(10, 23);
        could(x, 10, 2, 1);
        AnchoredNotes y = orphan("abc", "x", "def", "x");
        Due.is("reclaim(0), nothing is around", y.reclaim(0), 0);
        y.erase(0, 0);
        Sheets.orders(y, "+0=abcxdef");
        could(y, 3, 0, 1);
    }

    // -- promise 9

    private static void placeByReclaim() {
        Doc.sentence("Promise 9", "Returns the place at which its words begin");
        Due.is("the first place", orphan("", "ab", "", "abc").reclaim(0), 0);
        Due.is("the last place", orphan("", "ab", "", "cab").reclaim(0), 1);
        Due.is("the last place of 60", orphan("", "z", "", "a".repeat(59) + "z").reclaim(0), 59);
        Due.is("the first place of 60", orphan("", "z", "", "z" + "a".repeat(59)).reclaim(0), 0);
    }

    private static void noNoteToReclaim() {
        Doc.sentence("Promise 9", "NO_SUCH if there is no such note");
        noReclaim(Sheets::empty, 0, NO_SUCH);
        noReclaim(() -> Sheets.text("abc"), 0, NO_SUCH);
        for (int note : NO_NOTE_OF_THREE) {
            noReclaim(Sheets::busy, note, NO_SUCH);
        }
        noReclaim(Sheets::full, 16, NO_SUCH);
        noReclaim(Sheets::full, -1, NO_SUCH);
        Due.is("the orphan of three", orphan("", "a", "", "ba").reclaim(0), 1);
    }

    private static void notToBeReclaimed() {
        Doc.sentence("Promise 9", "NOT_POSSIBLE if it is a reply or no orphan");
        noReclaim(Sheets::busy, 0, NOT_POSSIBLE);
        noReclaim(Sheets::busy, 2, NOT_POSSIBLE);
        noReclaim(Sheets::full, 0, NOT_POSSIBLE);
        noReclaim(Sheets::full, 15, NOT_POSSIBLE);
        noReclaim(ReclaimBoundsTest::oneLetterLeft, 0, NOT_POSSIBLE);
        AnchoredNotes x = oneLetterLeft();
        Due.is("the last letter is erased, too", x.erase(0, 0), 1);
        Due.is("then it can be", x.reclaim(0), 0);
        Due.is("and not once more", x.reclaim(0), NOT_POSSIBLE);
    }

    /** Its words stand there, written anew, but so does one of its own letters. */
    private static AnchoredNotes oneLetterLeft() {
        AnchoredNotes x = Sheets.notes("abc", 1, 0, 2);
        Sheets.orders(x, "-1-2;+1=abc");
        return x;
    }

    private static void noPlaceToReclaim() {
        Doc.sentence("Promise 9", "or there is no such place");
        noReclaim(() -> orphan("", "ab", "", ""), 0, NOT_POSSIBLE);
        noReclaim(() -> orphan("", "ab", "", "a"), 0, NOT_POSSIBLE);
        noReclaim(() -> orphan("", "ab", "", "ba"), 0, NOT_POSSIBLE);
        noReclaim(() -> orphan("", "ab", "", "a".repeat(60)), 0, NOT_POSSIBLE);
        AnchoredNotes x = orphan("", "ab", "", "ba");
        Due.is("one letter is missing", x.reclaim(0), NOT_POSSIBLE);
        x.write(2, 1);
        Due.is("it is there", x.reclaim(0), 1);
    }

    // -- promise 16

    private static void orphansIfSets() {
        Doc.sentence("Promise 16", "Returns the notes that would be orphaned by erase().");
        Due.is("none there", Sheets.text("abc").orphansIf(0, 2), 0);
        AnchoredNotes x = Sheets.notes("abc", 1, 0, 1);
        Due.is("all but its last letter", x.orphansIf(0, 0), 0);
        Due.is("all but its first letter", x.orphansIf(1, 2), 0);
        Due.is("all of its letters", x.orphansIf(0, 1), 1);
        Due.is("the whole text", x.orphansIf(0, 2), 1);
        Due.is("no letter of it", x.orphansIf(2, 2), 0);
        AnchoredNotes y = Sheets.notes("ab", 15, 0, 0);
        y.note(0, 1);
        Due.is("15 of 16", y.orphansIf(0, 0), 0x7fff);
        Due.is("all 16", y.orphansIf(0, 1), 0xffff);
        Due.is("none of 16", y.orphansIf(1, 1), 0);
        y.erase(0, 0);
        Due.is("those that are orphans already are not in it", y.orphansIf(0, 0), 0x8000);
        Due.is("replies are not in it", Sheets.chain("ab", 16).orphansIf(0, 1), 1);
        Due.is("the last place of 60", Sheets.full().orphansIf(59, 59), 0x7fff);
        Due.is("all but that", Sheets.full().orphansIf(0, 58), 0);
    }

    private static void orphansIfIsErase() {
        Doc.sentence("Promise 16", "Returns the notes that would be orphaned by erase().");
        for (int from = 0; from < 7; from++) {
            for (int to = from; to < 7; to++) {
                int set = Sheets.busy().orphansIf(from, to);
                AnchoredNotes x = Sheets.busy();
                Due.is("erase(" + from + ", " + to + ")", x.erase(from, to), Integer.bitCount(set));
                Due.is("note 0 is an orphan then", x.of(0, 0), set & 1);
            }
        }
    }

    private static void orphansIfErrors() {
        Doc.sentence("Promise 16", "Returns the set; errors as for erase().");
        int[][] passages = {{0, 0}, {-1, 0}, {0, -1}, {7, 7}, {0, 7}, {7, 0}, {1, 0}, {6, 5}, {6, 0}, {MIN, MAX},
            {MAX, MIN}, {0, MAX}, {MIN, 0}};
        for (int[] passage : passages) {
            int from = passage[0];
            int to = passage[1];
            int error = Sheets.empty().erase(from, to);
            Due.holds("erase() without letters is refused", error < 0);
            noOrphansIf(Sheets::empty, from, to, error);
            int then = Sheets.busy().erase(from, to);
            if (then < 0) {
                noOrphansIf(Sheets::busy, from, to, then);
            }
        }
        noOrphansIf(Sheets::busy, 0, 7, NO_SUCH);
        noOrphansIf(Sheets::busy, -1, 0, NO_SUCH);
        noOrphansIf(Sheets::busy, 7, 6, NO_SUCH);
        noOrphansIf(Sheets::busy, 6, 5, BAD_VALUE);
        noOrphansIf(Sheets::full, 0, 60, NO_SUCH);
        noOrphansIf(Sheets::full, 59, 58, BAD_VALUE);
        Due.is("orphansIf(0, 6) of seven letters", Sheets.busy().orphansIf(0, 6), 1);
        Due.is("orphansIf(0, 59) of 60", Sheets.full().orphansIf(0, 59), 0x7fff);
    }

    // -- promise 17

    private static void couldNow() {
        Doc.sentence("Promise 17", "Returns something about how an orphan could be reclaimed now.");
        Doc.sentence("Promise 17", "Returns the number");
        AnchoredNotes x = orphan("b", "a", "c", "bzaz");
        could(x, 2, 0, 1);
        x.erase(1, 1);
        could(x, 1, 1, 1);
        x.write(0, 0);
        could(x, 2, 1, 2);
        x.write(1, 2);
        Due.looks(x, "acbaz");
        could(x, 0, 1, 2);
        x.move(1, 1, 3);
        Due.looks(x, "abacz");
        could(x, 2, 2, 2);
        x.undo();
        could(x, 0, 1, 2);
        Due.is("there it is reclaimed", x.reclaim(0), 0);
    }

    private static void couldPlaces() {
        Doc.sentence("Promise 17", "`what`: 0 the place at which it would be, 1 its likeness, 2 at how many places it could be");
        could(orphan("b", "a", "c", "a"), 0, 0, 1);
        could(orphan("b", "a", "c", "bac"), 1, 2, 1);
        could(orphan("b", "a", "c", "z".repeat(58) + "ba"), 59, 1, 1);
        could(orphan("b", "a", "c", "a".repeat(60)), 0, 0, 60);
        AnchoredNotes x = Sheets.notes("ab", 16, 0, 0);
        x.erase(0, 0);
        x.write(1, 0);
        Due.is("could(15, 0), the last note", x.could(15, 0), 1);
        Due.is("could(15, 2)", x.could(15, 2), 1);
    }

    private static void couldNoNote() {
        Doc.sentence("Promise 17", "NO_SUCH if there is no such note");
        noCould(Sheets::empty, 0, 0, NO_SUCH);
        for (int note : NO_NOTE_OF_THREE) {
            noCould(Sheets::busy, note, 0, NO_SUCH);
            noCould(Sheets::busy, note, 2, NO_SUCH);
            // Of several errors the first one.
            noCould(Sheets::busy, note, 3, NO_SUCH);
            noCould(Sheets::busy, note, -1, NO_SUCH);
        }
        noCould(Sheets::full, 16, 0, NO_SUCH);
        noCould(Sheets::full, 16, 3, NO_SUCH);
    }

    private static void couldWrongQuestion() {
        Doc.sentence("Promise 17", "BAD_VALUE if what is out of range");
        for (int what : new int[] {MIN, -1, 3, MAX}) {
            for (int note = 0; note < 3; note++) {
                // Ahead of NOT_POSSIBLE, of the note that stands and of the reply, and of NONE.
                noCould(Sheets::busy, note, what, BAD_VALUE);
            }
            noCould(() -> orphan("", "a", "", "a"), 0, what, BAD_VALUE);
            noCould(() -> orphan("", "a", "", ""), 0, what, BAD_VALUE);
        }
    }

    private static void couldNotPossible() {
        Doc.sentence("Promise 17", "NOT_POSSIBLE if it is a reply or no orphan");
        for (int what = 0; what <= 2; what++) {
            noCould(Sheets::busy, 0, what, NOT_POSSIBLE);
            noCould(Sheets::busy, 2, what, NOT_POSSIBLE);
            noCould(Sheets::full, 15, what, NOT_POSSIBLE);
            noCould(ReclaimBoundsTest::oneLetterLeft, 0, what, NOT_POSSIBLE);
        }
        AnchoredNotes x = oneLetterLeft();
        x.erase(0, 0);
        could(x, 0, 0, 1);
        x.reclaim(0);
        could(x, NOT_POSSIBLE, NOT_POSSIBLE, NOT_POSSIBLE);
    }

    private static void couldNone() {
        Doc.sentence("Promise 17", "NONE if there is no such place");
        could(orphan("", "ab", "", ""), NONE, NONE, NONE);
        could(orphan("", "ab", "", "a"), NONE, NONE, NONE);
        could(orphan("", "ab", "", "b".repeat(60)), NONE, NONE, NONE);
        AnchoredNotes x = orphan("", "ab", "", "b");
        could(x, NONE, NONE, NONE);
        x.write(0, 0);
        could(x, 0, 0, 1);
    }

    private static void questionsChangeNothing() {
        Doc.sentence("Texts", "what if; nothing changes.");
        for (int a : new int[] {-1, 0, 1, 6, 7, 59, 60}) {
            for (int b : new int[] {-1, 0, 2, 6, 59}) {
                for (Supplier<AnchoredNotes> made : Sheets.ALL) {
                    Same.unchanged("orphansIf(" + a + ", " + b + ")", made, x -> x.orphansIf(a, b));
                    Same.unchanged("could(" + a + ", " + b + ")", made, x -> x.could(a, b));
                }
            }
            for (Supplier<AnchoredNotes> made : Sheets.ALL) {
                Same.unchanged("leastRoom(" + a + ")", made, x -> x.leastRoom(a));
            }
        }
    }
}
