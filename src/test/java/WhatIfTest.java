/** Promises 16 and 17: orphansIf, could. */
public final class WhatIfTest {
    public static void main(String[] args) {
        orphansIf();
        orphansIfErrors();
        could();
        couldAtTheEnds();
        couldOverlap();
        couldErrors();
        Due.close();
    }

    private static void orphansIf() {
        AnchoredNotes x = Due.text("abcdef");
        x.note(0, 1);
        x.note(1, 3);
        x.reply(1);
        x.note(3, 3);
        Due.is("one letter of one of two", x.orphansIf(0, 0), 0);
        Due.is("the first one", x.orphansIf(0, 1), 1);
        Due.is("the first and the second one", x.orphansIf(0, 3), 1 | 2 | 8);
        Due.is("the last one", x.orphansIf(3, 5), 8);
        Due.is("no note's letters", x.orphansIf(4, 5), 0);
        Due.is("nothing changes", x.count(0), 6);
        Due.is("nor is it a change", x.count(12), 6);
        x.move(0, 0, 5);
        Due.looks(x, "bcdefa");
        Due.is("a piece stands elsewhere", x.orphansIf(0, 2), 2 | 8);
        Due.is("erase() does it", x.erase(0, 2), 2);
        Due.is("an orphan is not orphaned again", x.orphansIf(0, 1), 0);
        Due.is("the piece that is left", x.orphansIf(0, 2), 1);
    }

    private static void orphansIfErrors() {
        AnchoredNotes x = Due.text("ab");
        Due.is("orphansIf(0, 2)", x.orphansIf(0, 2), -1);
        Due.is("orphansIf(-1, 0)", x.orphansIf(-1, 0), -1);
        Due.is("orphansIf(2, 0)", x.orphansIf(2, 0), -1);
        Due.is("orphansIf(0, -1)", x.orphansIf(0, -1), -1);
        Due.is("orphansIf(1, 0)", x.orphansIf(1, 0), -2);
        Due.is("orphansIf(1, 1)", x.orphansIf(1, 1), 0);
        x.note(0, 0);
        Due.is("orphansIf(0, 0)", x.orphansIf(0, 0), 1);
        Due.is("orphansIf(1, 1)", x.orphansIf(1, 1), 0);
    }

    private static void could() {
        AnchoredNotes x = Due.text("abcxdef");
        x.note(3, 3);
        x.erase(3, 3);
        x.erase(0, 5);
        Due.append(x, "cxebcxdqbxdefg");
        Due.is("the place: cxd has b, c and d around", x.could(0, 0), 5);
        Due.is("its likeness", x.could(0, 1), 3);
        Due.is("the places", x.could(0, 2), 3);
        x.erase(4, 4);
        Due.looks(x, "cxebxdqbxdefg");
        Due.is("the place: d, e and f behind", x.could(0, 0), 8);
        Due.is("its likeness", x.could(0, 1), 3);
        Due.is("nothing changes", x.of(0, 0), 1);
        x.erase(8, 8);
        Due.is("cx-e and bx-d: of several the first one", x.could(0, 0), 1);
        Due.is("its likeness", x.could(0, 1), 1);
    }

    private static void couldAtTheEnds() {
        AnchoredNotes x = Due.text("abx");
        x.note(2, 2);
        x.erase(2, 2);
        x.write(0, 23);
        Due.looks(x, "xab");
        Due.is("nothing was behind, nothing is ahead", x.could(0, 1), 0);
        x.erase(1, 1);
        x.write(2, 23);
        x.write(3, 25);
        Due.looks(x, "xbxz");
        Due.is("of what is ahead, up to the end of the text", x.could(0, 1), 1);
        Due.is("its place", x.could(0, 0), 2);
        x.write(1, 0);
        x.write(1, 25);
        Due.looks(x, "xzabxz");
        Due.is("up to the end of what is remembered", x.could(0, 1), 2);
    }

    private static void couldOverlap() {
        AnchoredNotes x = Due.text("aa");
        x.note(0, 1);
        x.erase(0, 1);
        Due.is("no letters", x.could(0, 0), -6);
        Due.append(x, "a");
        Due.is("too few", x.could(0, 2), -6);
        Due.append(x, "aaa");
        Due.is("places may overlap", x.could(0, 2), 3);
        Due.is("the first one", x.could(0, 0), 0);
    }

    private static void couldErrors() {
        AnchoredNotes x = Due.text("ab");
        Due.is("could(0, 0)", x.could(0, 0), -1);
        x.note(0, 0);
        x.reply(0);
        Due.is("could(2, 3): the note comes first", x.could(2, 3), -1);
        Due.is("could(-1, 0)", x.could(-1, 0), -1);
        Due.is("could(0, 3): the value comes ahead of the state", x.could(0, 3), -2);
        Due.is("could(0, -1)", x.could(0, -1), -2);
        Due.is("a note that stands", x.could(0, 0), -5);
        Due.is("a reply", x.could(1, 0), -5);
        x.erase(0, 0);
        Due.is("a reply to an orphan", x.could(1, 0), -5);
        for (int what = 0; what < 3; what++) {
            Due.is("no such place", x.could(0, what), -6);
        }
    }
}
