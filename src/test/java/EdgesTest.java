/**
 * Each method at the edges of its arguments, in states that are empty, nearly empty, nearly full and full, held
 * against the Model: the answer, and what the text and the notes are then.
 */
public final class EdgesTest {
    private static final int MIN = Integer.MIN_VALUE, MAX = Integer.MAX_VALUE;
    private static final int[] EDGES = {MIN, -32, -1, 0, 1, 2, 5, 6, 7, 8, 9, 10, 12, 13, 14, 15, 16, 32, 58, 59, 60, 61, MAX};
    private static final int[] FEW = {-1, 0, 1, 5, 6, 7, 57, 58, 59, 60, 61, MAX};
    private static final long[] CHARACTERS = {0, 32, 33, 126, 127, 255, 256, 0x3b00L, 0x3b7230L, 0x3b007230L, 0x3b782d31L,
        0x6161616161616161L, 0x6161616161616120L, 0x2061616161616161L, 0x61616161616161L, 0xe161616161616161L, -1, Long.MIN_VALUE, Long.MAX_VALUE};
    private static final String[][] STATES = {
        {},
        {"+0=a"},
        {"+0=a;n0-0"},
        {"+0=ab;n0-0;r0;-0-0"},
        {"+0=abcabca;n0-2;n3-4;r1;r2;-3-4;m1-1>3"},
        {"+0=abcdefghijklmnopqrstuvwxyzabcdefghijklmnopqrstuvwxyzabcdefg", "n0-58;n58-58;n0-0;n1-9;r2;r4;-58-58;m0-0>9;n5-5;n5-5;n5-5;n5-5;n5-5;n5-5;n5-5;n5-5"},
        {"+0=abcdefghijklmnopqrstuvwxyzabcdefghijklmnopqrstuvwxyzabcdefg", "+59=z;n0-59;n59-59;r0;r1;r2;r3;r4;r5;r6;r7;r8;r9;r10;r11;r12;r13"}};

    private final String[] state;
    private AnchoredNotes x;
    private Model model;
    private int calls;

    private EdgesTest(String[] state) {
        this.state = state;
        renew();
    }

    public static void main(String[] args) {
        for (int state = 0; state < STATES.length; state++) {
            Due.about("state " + state);
            EdgesTest test = new EdgesTest(STATES[state]);
            test.without();
            for (int a : EDGES) {
                test.one(a);
                for (int b : EDGES) {
                    test.ask(a, b);
                    test.change(a, b);
                }
            }
            test.moves();
            test.puts();
        }
        Due.close();
    }

    /** Puts new ones in the same state, ahead of the 512th call, and after each change. */
    private void renew() {
        x = new AnchoredNotes();
        model = new Model();
        calls = 0;
        for (String orders : state) {
            for (int from = 0; from < orders.length(); from += 8) {
                long part = Due.packed(orders.substring(from, Math.min(orders.length(), from + 8)));
                due("put", x.put(part), model.put(part));
            }
            due("carryOut()", x.carryOut(), model.carryOut());
        }
        due("save(0)", x.save(0), model.save(0));
        due("put", x.put(0x72303bL), model.put(0x72303bL));
    }

    private void due(String call, int got, int want) {
        calls++;
        Due.is(call, got, want);
    }

    private void changed(String call, int got, int want) {
        due(call, got, want);
        if (got >= 0) {
            same("after " + call);
            due("undo() of " + call, x.undo(), model.undo());
            same("after undo() of " + call);
            renew();
        } else if (calls > 100) {
            same("after what was refused");
            renew();
        }
    }

    private void same(String when) {
        for (int what = 0; what <= 12; what++) {
            due("count(" + what + ") " + when, x.count(what), model.count(what));
        }
        for (int place = 0; place < model.count(0); place++) {
            due("letter(" + place + ") " + when, x.letter(place), model.letter(place));
            due("at(" + place + ") " + when, x.at(place), model.at(place));
        }
    }

    private void without() {
        due("fault()", x.fault(), model.fault());
        changed("carryOut()", x.carryOut(), model.carryOut());
        changed("undo()", x.undo(), model.undo());
        due("wipe()", x.wipe(), model.wipe());
        due("wipe() once more", x.wipe(), model.wipe());
        due("fault()", x.fault(), model.fault());
        changed("carryOut()", x.carryOut(), model.carryOut());
        renew();
    }

    private void one(int a) {
        due("letter(" + a + ")", x.letter(a), model.letter(a));
        due("at(" + a + ")", x.at(a), model.at(a));
        due("count(" + a + ")", x.count(a), model.count(a));
        due("leastRoom(" + a + ")", x.leastRoom(a), model.leastRoom(a));
        changed("reply(" + a + ")", x.reply(a), model.reply(a));
        changed("drop(" + a + ")", x.drop(a), model.drop(a));
        changed("reclaim(" + a + ")", x.reclaim(a), model.reclaim(a));
        changed("restore(" + a + ")", x.restore(a), model.restore(a));
        due("save(" + a + ")", x.save(a), model.save(a));
    }

    private void ask(int a, int b) {
        String both = "(" + a + ", " + b + ")";
        due("of" + both, x.of(a, b), model.of(a, b));
        due("word" + both, x.word(a, b), model.word(a, b));
        due("printed" + both, x.printed(a, b), model.printed(a, b));
        due("could" + both, x.could(a, b), model.could(a, b));
        due("orphansIf" + both, x.orphansIf(a, b), model.orphansIf(a, b));
    }

    private void change(int a, int b) {
        String both = "(" + a + ", " + b + ")";
        changed("set" + both, x.set(a, b), model.set(a, b));
        changed("write" + both, x.write(a, b), model.write(a, b));
        changed("erase" + both, x.erase(a, b), model.erase(a, b));
        changed("note" + both, x.note(a, b), model.note(a, b));
    }

    private void moves() {
        for (int a : FEW) {
            for (int b : FEW) {
                for (int place : FEW) {
                    changed("move(" + a + ", " + b + ", " + place + ")", x.move(a, b, place), model.move(a, b, place));
                }
            }
        }
    }

    private void puts() {
        for (long characters : CHARACTERS) {
            due("put(" + characters + ")", x.put(characters), model.put(characters));
            due("fault()", x.fault(), model.fault());
        }
        for (int part = 0; part < 11; part++) {
            due("put a part", x.put(0x72313b78313b7232L + part), model.put(0x72313b78313b7232L + part));
            due("count(11)", x.count(11), model.count(11));
        }
        changed("carryOut()", x.carryOut(), model.carryOut());
        renew();
    }
}
