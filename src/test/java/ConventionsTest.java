import java.util.LinkedHashMap;
import java.util.Map;
import java.util.function.Supplier;
import java.util.function.ToIntFunction;

/** CONVENTIONS, of all methods together: error codes, their order, refused calls, NONE, numbers from 0, sets. */
public final class ConventionsTest {
    private static final int MIN = Integer.MIN_VALUE, MAX = Integer.MAX_VALUE;
    private static final int NO_SUCH = -1, BAD_VALUE = -2, BAD_TEXT = -3, TOO_MANY = -4, NOT_POSSIBLE = -5, NONE = -6;
    private static final int[] FAR = {MIN, MIN + 1, -65, -64, -33, -32, -17, -16, -2, -1, 16, 17, 31, 32, 33, 61, 62, 64,
        65, 127, 128, 255, 256, 1 << 16, MAX - 1, MAX};

    public static void main(String[] args) {
        codes();
        eachCodeIsReturned();
        firstOneThatApplies();
        refusedInEachState();
        noRoomLeft();
        farOut();
        noneIsNoError();
        fromZero();
        masks();
        lastCall();
        Due.close();
    }

    private static void codes() {
        Doc.sentence("CONVENTIONS", "NO_SUCH (-1), BAD_VALUE (-2), BAD_TEXT (-3), TOO_MANY (-4) and NOT_POSSIBLE (-5)");
        Due.is("NO_SUCH", AnchoredNotes.NO_SUCH, -1);
        Due.is("BAD_VALUE", AnchoredNotes.BAD_VALUE, -2);
        Due.is("BAD_TEXT", AnchoredNotes.BAD_TEXT, -3);
        Due.is("TOO_MANY", AnchoredNotes.TOO_MANY, -4);
        Due.is("NOT_POSSIBLE", AnchoredNotes.NOT_POSSIBLE, -5);
        Doc.sentence("Texts", "Error codes, and NONE: there is none.");
        Due.is("NONE", AnchoredNotes.NONE, -6);
        Doc.sentence("Texts", "`AROUND = 0, WIDTH = 1, ROOM = 2`: Settings.");
        Due.is("AROUND", AnchoredNotes.AROUND, 0);
        Due.is("WIDTH", AnchoredNotes.WIDTH, 1);
        Due.is("ROOM", AnchoredNotes.ROOM, 2);
    }

    private static void eachCodeIsReturned() {
        Doc.sentence("CONVENTIONS", "A method that fails returns one of the error codes");
        Due.is("write(1, 0)", Sheets.empty().write(1, 0), AnchoredNotes.NO_SUCH);
        Due.is("write(0, 26)", Sheets.empty().write(0, 26), AnchoredNotes.BAD_VALUE);
        Due.is("carryOut()", Sheets.empty().carryOut(), AnchoredNotes.BAD_TEXT);
        Due.is("write(0, 0)", Sheets.full().write(0, 0), AnchoredNotes.TOO_MANY);
        Due.is("undo()", Sheets.empty().undo(), AnchoredNotes.NOT_POSSIBLE);
    }

    private static void all(Map<String, ToIntFunction<AnchoredNotes>> calls, Supplier<AnchoredNotes> made, int error) {
        for (Map.Entry<String, ToIntFunction<AnchoredNotes>> call : calls.entrySet()) {
            Same.refused(call.getKey(), made, call.getValue(), error);
        }
    }

    private static void firstOneThatApplies() {
        Doc.sentence("CONVENTIONS", "it names its errors in the order in which they are checked, and the first one that applies is returned.");
        Map<String, ToIntFunction<AnchoredNotes>> calls = new LinkedHashMap<>();
        calls.put("write(61, 26): all three", x -> x.write(61, 26));
        calls.put("write(61, 0): also TOO_MANY", x -> x.write(61, 0));
        calls.put("write(-1, -1): all three", x -> x.write(-1, -1));
        calls.put("erase(60, 59): also BAD_VALUE", x -> x.erase(60, 59));
        calls.put("move(60, 59, 0): also BAD_VALUE", x -> x.move(60, 59, 0));
        calls.put("move(0, 60, 61): also BAD_VALUE", x -> x.move(0, 60, 61));
        calls.put("note(60, 59): all three", x -> x.note(60, 59));
        calls.put("note(60, 60): also TOO_MANY", x -> x.note(60, 60));
        calls.put("reply(16): also TOO_MANY", x -> x.reply(16));
        calls.put("of(16, 9): also BAD_VALUE", x -> x.of(16, 9));
        calls.put("printed(16, 2): also BAD_VALUE", x -> x.printed(16, 2));
        calls.put("orphansIf(60, 59): also BAD_VALUE", x -> x.orphansIf(60, 59));
        calls.put("could(16, 3): also BAD_VALUE", x -> x.could(16, 3));
        all(calls, Sheets::full, NO_SUCH);
        calls.clear();
        calls.put("write(60, 26): also TOO_MANY", x -> x.write(60, 26));
        calls.put("write(0, -1): also TOO_MANY", x -> x.write(0, -1));
        calls.put("note(1, 0): also TOO_MANY", x -> x.note(1, 0));
        calls.put("could(0, 3): also NOT_POSSIBLE", x -> x.could(0, 3));
        calls.put("could(15, -1): also NOT_POSSIBLE", x -> x.could(15, -1));
        calls.put("put(32): also TOO_MANY", x -> x.put(32));
        calls.put("put(0): also TOO_MANY", x -> x.put(0));
        all(calls, Sheets::full, BAD_VALUE);
        calls.clear();
        calls.put("write(-1, 26): also BAD_VALUE", x -> x.write(-1, 26));
        calls.put("write(1, 26): also BAD_VALUE", x -> x.write(1, 26));
        calls.put("erase(1, 0): also BAD_VALUE", x -> x.erase(1, 0));
        calls.put("move(1, 0, 1): also BAD_VALUE", x -> x.move(1, 0, 1));
        calls.put("note(1, 0): also BAD_VALUE", x -> x.note(1, 0));
        calls.put("of(0, -1): also BAD_VALUE", x -> x.of(0, -1));
        calls.put("printed(0, -1): also BAD_VALUE", x -> x.printed(0, -1));
        calls.put("could(0, -1): also BAD_VALUE", x -> x.could(0, -1));
        all(calls, Sheets::empty, NO_SUCH);
        Same.refused("restore(2): also NOT_POSSIBLE", Sheets::empty, x -> x.restore(2), BAD_VALUE);
    }

    private static void refusedInEachState() {
        Doc.sentence("CONVENTIONS", "A call that returns an error changes nothing.");
        Map<String, ToIntFunction<AnchoredNotes>> calls = new LinkedHashMap<>();
        calls.put("set(0, 9)", x -> x.set(0, 9));
        calls.put("set(3, 1)", x -> x.set(3, 1));
        calls.put("write(0, 26)", x -> x.write(0, 26));
        calls.put("count(13)", x -> x.count(13));
        calls.put("leastRoom(61)", x -> x.leastRoom(61));
        calls.put("put(32)", x -> x.put(32));
        calls.put("put(half good)", x -> x.put(0x6120L));
        calls.put("save(2)", x -> x.save(2));
        calls.put("restore(2)", x -> x.restore(2));
        for (Supplier<AnchoredNotes> made : Sheets.ALL) {
            all(calls, made, BAD_VALUE);
        }
        calls.clear();
        calls.put("write(61, 0)", x -> x.write(61, 0));
        calls.put("erase(0, 60)", x -> x.erase(0, 60));
        calls.put("move(0, 60, 0)", x -> x.move(0, 60, 0));
        calls.put("note(0, 60)", x -> x.note(0, 60));
        calls.put("reply(16)", x -> x.reply(16));
        calls.put("drop(16)", x -> x.drop(16));
        calls.put("reclaim(16)", x -> x.reclaim(16));
        calls.put("letter(60)", x -> x.letter(60));
        calls.put("of(16, 0)", x -> x.of(16, 0));
        calls.put("word(16, 0)", x -> x.word(16, 0));
        calls.put("at(60)", x -> x.at(60));
        calls.put("printed(16, 0)", x -> x.printed(16, 0));
        calls.put("orphansIf(0, 60)", x -> x.orphansIf(0, 60));
        calls.put("could(16, 0)", x -> x.could(16, 0));
        for (Supplier<AnchoredNotes> made : Sheets.ALL) {
            all(calls, made, NO_SUCH);
        }
    }

    private static void noRoomLeft() {
        Doc.sentence("CONVENTIONS", "A call that returns an error changes nothing.");
        Map<String, ToIntFunction<AnchoredNotes>> calls = new LinkedHashMap<>();
        calls.put("write(30, 0)", x -> x.write(30, 0));
        calls.put("note(0, 59)", x -> x.note(0, 59));
        calls.put("reply(0)", x -> x.reply(0));
        calls.put("put(33)", x -> x.put(33));
        all(calls, Sheets::full, TOO_MANY);
        calls.clear();
        calls.put("undo()", AnchoredNotes::undo);
        calls.put("restore(0)", x -> x.restore(0));
        calls.put("restore(1)", x -> x.restore(1));
        all(calls, Sheets::empty, NOT_POSSIBLE);
        Same.refused("carryOut()", Sheets::empty, AnchoredNotes::carryOut, BAD_TEXT);
        Same.refused("reclaim(0)", Sheets::full, x -> x.reclaim(0), NOT_POSSIBLE);
        Same.refused("could(15, 0)", Sheets::full, x -> x.could(15, 0), NOT_POSSIBLE);
    }

    /** Numbers of which a part, or their distance, would be a good one if bits were lost. */
    private static void farOut() {
        Doc.sentence("CONVENTIONS", "A method that fails returns one of the error codes");
        for (int far : FAR) {
            boolean place = far >= 0 && far < 60;
            AnchoredNotes x = Sheets.full();
            Due.is("reply(" + far + ")", x.reply(far), NO_SUCH);
            Due.is("drop(" + far + ")", x.drop(far), NO_SUCH);
            Due.is("reclaim(" + far + ")", x.reclaim(far), NO_SUCH);
            Due.is("of(" + far + ", 0)", x.of(far, 0), NO_SUCH);
            Due.is("word(" + far + ", 0)", x.word(far, 0), NO_SUCH);
            Due.is("word(0, " + far + ")", x.word(0, far), NO_SUCH);
            Due.is("printed(" + far + ", 0)", x.printed(far, 0), NO_SUCH);
            Due.is("could(" + far + ", 0)", x.could(far, 0), NO_SUCH);
            Due.is("of(0, " + far + ")", x.of(0, far), BAD_VALUE);
            Due.is("printed(0, " + far + ")", x.printed(0, far), BAD_VALUE);
            Due.is("count(" + far + ")", x.count(far), BAD_VALUE);
            Due.is("set(" + far + ", 1)", x.set(far, 1), BAD_VALUE);
            Due.is("save(" + far + ")", x.save(far), BAD_VALUE);
            Due.is("restore(" + far + ")", x.restore(far), BAD_VALUE);
            if (!place) {
                farPlaces(x, far);
            }
            Due.holds("nothing is changed by " + far, Same.look(x).equals(Same.look(Sheets.full())));
        }
    }

    private static void farPlaces(AnchoredNotes x, int far) {
        Due.is("letter(" + far + ")", x.letter(far), NO_SUCH);
        Due.is("at(" + far + ")", x.at(far), NO_SUCH);
        Due.is("write(" + far + ", 0)", x.write(far, 0), NO_SUCH);
        Due.is("erase(0, " + far + ")", x.erase(0, far), NO_SUCH);
        Due.is("erase(" + far + ", 0)", x.erase(far, 0), NO_SUCH);
        Due.is("erase twice " + far, x.erase(far, far), NO_SUCH);
        Due.is("move(0, " + far + ", 0)", x.move(0, far, 0), NO_SUCH);
        Due.is("move(" + far + ", 0, 0)", x.move(far, 0, 0), NO_SUCH);
        Due.is("move(0, 0, " + far + ")", x.move(0, 0, far), BAD_VALUE);
        Due.is("note(0, " + far + ")", x.note(0, far), NO_SUCH);
        Due.is("note(" + far + ", 0)", x.note(far, 0), NO_SUCH);
        Due.is("orphansIf(0, " + far + ")", x.orphansIf(0, far), NO_SUCH);
        Due.is("orphansIf(" + far + ", 0)", x.orphansIf(far, 0), NO_SUCH);
        Due.is("leastRoom(" + far + ")", x.leastRoom(far), BAD_VALUE);
        Due.is("set(1, " + far + ")", x.set(1, far), BAD_VALUE);
    }

    private static void noneIsNoError() {
        Doc.sentence("CONVENTIONS", "NONE (-6) is not an error; it is returned only if no error applies.");
        // busy(): note 1 is an orphan, note 2 a reply to it.
        Due.is("of(1, 1)", Sheets.busy().of(1, 1), NONE);
        Due.is("of(2, 3)", Sheets.busy().of(2, 3), NONE);
        Due.is("of(1, 9)", Sheets.busy().of(1, 9), BAD_VALUE);
        Due.is("of(3, 1)", Sheets.busy().of(3, 1), NO_SUCH);
        Due.is("word(2, 0)", Sheets.busy().word(2, 0), NONE);
        Due.is("word(3, 0)", Sheets.busy().word(3, 0), NO_SUCH);
        Due.is("printed(1, 1)", Sheets.busy().printed(1, 1), NONE);
        Due.is("printed(1, 2)", Sheets.busy().printed(1, 2), BAD_VALUE);
        Due.is("printed(2, -1)", Sheets.busy().printed(2, -1), BAD_VALUE);
        Due.is("count(6)", Sheets.empty().count(6), NONE);
        Due.is("leastRoom(0) of ten notes", Sheets.notes("a", 10, 0, 0).leastRoom(0), NONE);
        Due.is("leastRoom(-1) of ten notes", Sheets.notes("a", 10, 0, 0).leastRoom(-1), BAD_VALUE);
        AnchoredNotes x = Sheets.notes("a", 1, 0, 0);
        x.erase(0, 0);
        Due.is("could(0, 0)", x.could(0, 0), NONE);
        Due.is("could(0, 3)", x.could(0, 3), BAD_VALUE);
        Due.is("could(1, 0)", x.could(1, 0), NO_SUCH);
        AnchoredNotes y = Sheets.text("a");
        Due.put(y, "r0");
        Due.is("fault()", y.fault(), NONE);
        Due.is("a text without a fault is carried out", y.carryOut(), 0);
    }

    private static void fromZero() {
        Doc.sentence("CONVENTIONS", "Everything is numbered from 0.");
        AnchoredNotes x = Sheets.empty();
        Due.is("the first setting", x.set(0, 8), 3);
        Due.is("the first letter of all", x.write(0, 0), 1);
        Due.is("the first place", x.letter(0), 0);
        Due.is("the first note", x.note(0, 0), 0);
        Due.is("the first of its words", x.word(0, 0), 0);
        Due.is("the first line", x.printed(0, 0), 0);
        Due.is("the first slot", x.save(0), 1);
        Due.put(x, "!");
        Due.is("the first character", x.fault(), 0);
        int[] behind = {x.set(-1, 8), x.write(-1, 0), x.write(0, -1), x.letter(-1), x.of(-1, 0), x.of(0, -1),
            x.word(0, -1), x.printed(0, -1), x.save(-1), x.count(-1)};
        for (int answer : behind) {
            Due.holds("there is none ahead of the first one", answer == NO_SUCH || answer == BAD_VALUE);
        }
    }

    private static void masks() {
        Doc.sentence("CONVENTIONS", "Sets of notes are bit masks.");
        AnchoredNotes x = Sheets.letters(17);
        for (int note = 0; note < 16; note++) {
            x.note(note, note);
        }
        for (int note = 0; note < 16; note++) {
            Due.is("at(" + note + ")", x.at(note), 1 << note);
            Due.is("orphansIf(" + note + ", " + note + ")", x.orphansIf(note, note), 1 << note);
        }
        Due.is("no note", x.at(16), 0);
        Due.is("no note", x.orphansIf(16, 16), 0);
        Due.is("all 16", x.orphansIf(0, 15), 0xffff);
        Due.is("all but the first", x.orphansIf(1, 16), 0xfffe);
        Due.is("all but the last", x.orphansIf(0, 14), 0x7fff);
    }

    private static void lastCall() {
        Doc.sentence("What it is", "An object is used for at most 512 calls after it has been made");
        AnchoredNotes x = Sheets.empty();
        for (int call = 1; call <= 512; call += 4) {
            Due.is("call " + call + ", write(0, 25)", x.write(0, 25), 1);
            Due.is("call " + (call + 1) + ", note(0, 0)", x.note(0, 0), 0);
            Due.is("call " + (call + 2) + ", erase(0, 0)", x.erase(0, 0), 1);
            Due.is("call " + (call + 3) + ", drop(0)", x.drop(0), 1);
        }
    }
}
