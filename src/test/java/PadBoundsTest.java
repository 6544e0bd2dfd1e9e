import java.util.function.Supplier;

/** The bounds of Texts and promises 19 to 22: put, wipe, fault, carryOut. */
public final class PadBoundsTest {
    private static final int BAD_VALUE = -2, BAD_TEXT = -3, TOO_MANY = -4, NONE = -6;
    private static final String DIGITS = "0123456789", LETTERS = "abcdefghijklmnopqrstuvwxyz", KINDS = "+-mnrxc";

    public static void main(String[] args) {
        mostCharacters();
        whatCanStand();
        kindsOfOrders();
        numbers();
        letters();
        firstFault();
        digitThatIsTooMuch();
        endsTooEarly();
        noFault();
        faultChangesNothing();
        putBehindTheOthers();
        oneToEight();
        lengthByPut();
        orderOfCharacters();
        noCharacter();
        wrongCode();
        bitsAboveTheEnd();
        padTooLong();
        wipe();
        writeOneBehindTheOther();
        writeUpToAnError();
        placesOfOrders();
        notesOfOrders();
        upToTheFirstError();
        mostOrders();
        carryOutIsOneChange();
        badText();
        Due.close();
    }

    private static void noPut(Supplier<AnchoredNotes> made, long characters, int error) {
        Same.refused("put(" + characters + ")", made, x -> x.put(characters), error);
    }

    private static void fault(String text, int due) {
        Due.is("the fault of '" + text + "'", Due.fault(text), due);
    }

    private static AnchoredNotes pad(String text) {
        AnchoredNotes x = Sheets.empty();
        Due.put(x, text);
        return x;
    }

    private static AnchoredNotes padded(int characters) {
        return pad("+0=".concat("a".repeat(77)).substring(0, characters));
    }

    // -- Texts

    private static void mostCharacters() {
        Doc.sentence("Texts", "The pad is a text of at most 80 characters, a row of orders");
        AnchoredNotes x = padded(80);
        Due.is("the length", x.count(11), 80);
        Due.is("a full pad is read to its end", x.fault(), NONE);
        Due.is("one character more", x.put('a'), TOO_MANY);
        Due.is("77 letters, of which 60 can be written", x.carryOut(), 0);
        Due.is("letters", x.count(0), 60);
        Due.is("79 characters and one", padded(79).put('a'), 80);
    }

    /** Holds each character at the end of a text that is good so far against those that can stand there. */
    private static void next(String text, String canStand) {
        for (char c = 33; c <= 126; c++) {
            int fault = Due.fault(text + c);
            if (canStand.indexOf(c) < 0) {
                Due.is("the fault of '" + text + c + "'", fault, text.length());
            } else {
                Due.holds(c + " can stand behind '" + text + "'", fault == NONE || fault == text.length() + 1);
            }
        }
    }

    private static void whatCanStand() {
        Doc.sentence("Texts", "order = \"+\" number \"=\" letter { letter } | \"-\" number \"-\" number | \"m\" number \"-\" number \">\" number | \"n\" number \"-\" number | \"r\" number | \"x\" number | \"c\" number");
        for (String before : new String[] {"", "r5;", "+0=ab;n1-1;"}) {
            next(before, KINDS);
            numberNext(before + "+", "=");
            next(before + "+0=", LETTERS);
            next(before + "+0=a", LETTERS + ";");
            next(before + "+10=zz", LETTERS + ";");
            for (String kind : new String[] {"-", "n", "m"}) {
                numberNext(before + kind, "-");
                numberNext(before + kind + "0-", kind.equals("m") ? ">" : ";");
            }
            numberNext(before + "m1-2>", ";");
            for (String kind : new String[] {"r", "x", "c"}) {
                numberNext(before + kind, ";");
            }
        }
    }

    private static void numberNext(String before, String then) {
        next(before, DIGITS);
        next(before + "0", then);
        next(before + "1", DIGITS + then);
        next(before + "9", DIGITS + then);
        next(before + "10", then);
        next(before + "99", then);
    }

    private static void kindsOfOrders() {
        Doc.sentence("Texts", "text = order { \";\" order }");
        for (String order : new String[] {"+0=a", "-0-0", "m0-0>0", "n0-0", "r0", "x0", "c0"}) {
            fault(order, NONE);
            fault(order + ";" + order, NONE);
            fault(order + ";", order.length() + 1);
            fault(order + ";;", order.length() + 1);
            fault(order + order, order.length());
            fault(";" + order, 0);
        }
    }

    private static void numbers() {
        Doc.sentence("Texts", "a number 0 to 99, without leading zeros");
        for (int number = 0; number <= 99; number++) {
            fault("r" + number, NONE);
        }
        for (int digit = 0; digit <= 9; digit++) {
            fault("r0" + digit, 2);
            fault("+0" + digit + "=a", 2);
            fault("m0-0>0" + digit, 6);
        }
        fault("r100", 3);
        fault("r990", 3);
        fault("r999", 3);
        fault("r000", 2);
    }

    private static void letters() {
        Doc.sentence("Texts", "A letter is one from a to z");
        AnchoredNotes x = Sheets.text("az");
        Due.is("a", x.letter(0), 0);
        Due.is("z", x.letter(1), 25);
        fault("+0=`", 3);
        fault("+0={", 3);
        fault("+0=A", 3);
        fault("+0=Z", 3);
        fault("+0=a`", 4);
        fault("+0=z{", 4);
        fault("+0=" + LETTERS, NONE);
    }

    private static void firstFault() {
        Doc.sentence("Texts", "The fault is the index of the first character that cannot stand at its place when the text is read from left to right");
        fault("!", 0);
        fault("~", 0);
        fault("=a;r100;!", 0);
        fault("r!;r100", 1);
        fault("r0;r0;r0!", 8);
        fault("r1;r2;R", 6);
        fault("r1;r2;r", 7);
        String most = "r1;".repeat(26);
        fault(most + "R1", 78);
        fault(most + "r!", 79);
        fault(most.substring(0, 77) + "!r1", 77);
    }

    private static void digitThatIsTooMuch() {
        Doc.sentence("Texts", "(also of a digit by which a number would be above 99)");
        fault("r99", NONE);
        fault("r100", 3);
        fault("r101", 3);
        fault("x990", 3);
        fault("c10000", 3);
        fault("+100=a", 3);
        fault("+99=a", NONE);
        fault("-99-99", NONE);
        fault("-100-1", 3);
        fault("-1-100", 5);
        fault("n99-99", NONE);
        fault("n1-100", 5);
        fault("m99-99>99", NONE);
        fault("m100-1>1", 3);
        fault("m1-100>1", 5);
        fault("m1-1>100", 7);
    }

    private static void endsTooEarly() {
        Doc.sentence("Texts", "if there is none and the text ends too early (also if it is empty), it is the length of the text.");
        Due.is("fault() of an empty pad", Sheets.empty().fault(), 0);
        String[] whole = {"+10=a", "-10-10", "m10-10>10", "n10-10", "r10", "x10", "c10"};
        int[] least = {5, 5, 8, 5, 2, 2, 2};
        for (int kind = 0; kind < whole.length; kind++) {
            for (int size = 1; size <= whole[kind].length(); size++) {
                fault(whole[kind].substring(0, size), size < least[kind] ? size : NONE);
                fault("r0;" + whole[kind].substring(0, size), size < least[kind] ? size + 3 : NONE);
            }
        }
        String most = "r1;".repeat(26);
        fault(most, 78);
        fault(most + "r", 79);
        fault(most + "r1", NONE);
        fault("r10;" + most.substring(0, 75), 79);
        fault("r10;r1;" + most.substring(0, 72) + "r", 80);
        fault("r10;r10;" + most.substring(0, 72), 80);
    }

    // -- promise 21

    private static void noFault() {
        Doc.sentence("Promise 21", "Returns the fault of the pad, NONE if there is none.");
        Due.is("an empty pad", Sheets.empty().fault(), 0);
        Due.is("the shortest text", pad("r0").fault(), NONE);
        Due.is("the longest text", padded(80).fault(), NONE);
        AnchoredNotes x = pad("r0");
        Due.is("put ;", x.put(';'), 3);
        Due.is("one character is missing", x.fault(), 3);
        x.put(Due.packed("r1"));
        Due.is("it is there", x.fault(), NONE);
        Due.is("asked once more", x.fault(), NONE);
        x.wipe();
        Due.is("wiped", x.fault(), 0);
    }

    private static void faultChangesNothing() {
        Doc.sentence("Promise 21", "Returns the fault of the pad, NONE if there is none.");
        for (Supplier<AnchoredNotes> made : Sheets.ALL) {
            Same.unchanged("fault()", made, AnchoredNotes::fault);
        }
        Same.unchanged("fault()", () -> pad("+0=ab;-0"), AnchoredNotes::fault);
        Due.is("an order that has a fault behind it is not carried out", pad("+0=ab;-0").count(0), 0);
    }

    // -- promise 19

    private static void putBehindTheOthers() {
        Doc.sentence("Promise 19", "Appends characters to the pad. They are given as a number");
        AnchoredNotes x = Sheets.empty();
        Due.is("put(0x2b303d61), +0=a", x.put(0x2b303d61), 4);
        Due.is("put(98), b", x.put(98), 5);
        Due.is("put(0x3b2d312d31), ;-1-1", x.put(0x3b2d312d31L), 10);
        Due.is("the length", x.count(11), 10);
        Due.is("no change", x.count(12), 0);
        Due.is("carryOut()", x.carryOut(), 2);
        Due.looks(x, "a");
        Due.is("put(0x7230), r0, in the pad that is empty then", x.put(0x7230), 2);
    }

    private static void oneToEight() {
        Doc.sentence("Promise 19", "`characters`: 1 to 8 characters");
        String eight = "+0=abcde";
        for (int size = 1; size <= 8; size++) {
            Due.is("put " + size, Sheets.empty().put(Due.packed(eight.substring(0, size))), size);
        }
        Due.is("eight of the least code", Sheets.empty().put(0x2121212121212121L), 8);
        Due.is("eight of the greatest code", Sheets.empty().put(0x7e7e7e7e7e7e7e7eL), 8);
    }

    private static void lengthByPut() {
        Doc.sentence("Promise 19", "Returns the length of the pad then");
        AnchoredNotes x = Sheets.empty();
        for (int length = 1; length <= 80; length++) {
            Due.is("put('a')", x.put('a'), length);
        }
        Due.is("put('a') once more", x.put('a'), TOO_MANY);
        Due.is("the length", x.count(11), 80);
    }

    private static void orderOfCharacters() {
        Doc.sentence("Promise 19", "its lowest 8 bits are the last character, the next 8 bits the one before, and so on");
        AnchoredNotes x = Sheets.empty();
        x.put('+');
        x.put('0' << 8 | '=');
        x.put(0x6162636465666768L);
        Due.is("the length", x.count(11), 11);
        Due.is("carryOut()", x.carryOut(), 1);
        Due.looks(x, "abcdefgh");
    }

    private static void noCharacter() {
        Doc.sentence("Promise 19", "BAD_VALUE if there is no character");
        for (Supplier<AnchoredNotes> made : Sheets.ALL) {
            noPut(made, 0, BAD_VALUE);
        }
        noPut(() -> padded(79), 0, BAD_VALUE);
        Due.is("put('r')", Sheets.empty().put('r'), 1);
    }

    private static void wrongCode() {
        Doc.sentence("Promise 19", "a code is not 33 to 126");
        long good = 0x6161616161616161L;
        for (int place = 0; place < 8; place++) {
            long others = good & ~(255L << 8 * place);
            for (int code : new int[] {33, 126}) {
                Due.is("code " + code + " at " + place, Sheets.empty().put(others | (long) code << 8 * place), 8);
            }
            for (int code : new int[] {1, 32, 127, 128, 255}) {
                noPut(Sheets::busy, others | (long) code << 8 * place, BAD_VALUE);
            }
        }
        for (int code : new int[] {1, 32, 127, 128, 255}) {
            noPut(Sheets::empty, code, BAD_VALUE);
            // Of several errors the first one.
            noPut(Sheets::full, code, BAD_VALUE);
        }
        noPut(Sheets::full, -1L, BAD_VALUE);
        noPut(Sheets::empty, Long.MIN_VALUE, BAD_VALUE);
        noPut(Sheets::empty, Long.MAX_VALUE, BAD_VALUE);
        noPut(Sheets::empty, good | Long.MIN_VALUE, BAD_VALUE);
    }

    private static void bitsAboveTheEnd() {
        Doc.sentence("Promise 19", "8 bits that are 0 mean that there are no more characters, and everything above them has to be 0, too.");
        for (int end = 1; end < 7; end++) {
            long characters = 0x6161616161616161L & (1L << 8 * end) - 1;
            Due.is(end + " characters", Sheets.empty().put(characters), end);
            noPut(Sheets::busy, characters | 1L << 8 * (end + 1), BAD_VALUE);
            noPut(Sheets::busy, characters | (long) 'a' << 8 * (end + 1), BAD_VALUE);
            noPut(Sheets::busy, characters | Long.MIN_VALUE, BAD_VALUE);
        }
        Doc.sentence("Promise 19", "or a bit above 8 bits that are 0 is not 0");
        noPut(Sheets::empty, 1L << 8, BAD_VALUE);
        noPut(Sheets::empty, (long) 'a' << 8, BAD_VALUE);
        noPut(Sheets::empty, (long) 'a' << 56, BAD_VALUE);
        noPut(Sheets::full, (long) 'a' << 16 | 'a', BAD_VALUE);
    }

    private static void padTooLong() {
        Doc.sentence("Promise 19", "TOO_MANY if the pad would be longer than 80");
        for (int size = 1; size <= 8; size++) {
            long characters = Due.packed("aaaaaaaa".substring(0, size));
            int length = 80 - size;
            Due.is(size + " behind " + length, padded(length).put(characters), 80);
            noPut(() -> padded(length + 1), characters, TOO_MANY);
            noPut(Sheets::full, characters, TOO_MANY);
        }
        AnchoredNotes x = padded(76);
        Due.is("five behind 76", x.put(Due.packed("aaaaa")), TOO_MANY);
        Due.is("none of them is put", x.count(11), 76);
        Due.is("four behind 76", x.put(Due.packed("aaaa")), 80);
    }

    // -- promise 20

    private static void wipe() {
        Doc.sentence("Promise 20", "Empties the pad, and returns the length that it had.");
        for (int length : new int[] {1, 8, 79, 80}) {
            AnchoredNotes x = padded(length);
            Due.is("wipe()", x.wipe(), length);
            Due.is("the length then", x.count(11), 0);
            Due.is("wipe() once more", x.wipe(), 0);
            Due.is("fault()", x.fault(), 0);
        }
        Same.unchanged("wipe() of an empty pad", Sheets::empty, AnchoredNotes::wipe);
        AnchoredNotes y = Sheets.full();
        Due.is("wipe() of a full pad", y.wipe(), 80);
        Due.is("letters, notes, changes stay", y.count(0) * 1000 + y.count(1) * 10 + y.count(12), 60166);
        for (int part = 1; part <= 10; part++) {
            Due.is("there is room for 80 again", y.put(0x6161616161616161L), 8 * part);
        }
    }

    // -- orders, promise 22

    private static void writeOneBehindTheOther() {
        Doc.sentence("Texts", "\"+\": write() letters, one behind the other, from a place on");
        AnchoredNotes x = Sheets.text("ab");
        Sheets.orders(x, "+0=cd");
        Due.looks(x, "cdab");
        Sheets.orders(x, "+4=ef");
        Due.looks(x, "cdabef");
        Sheets.orders(x, "+2=g");
        Due.looks(x, "cdgabef");
        Due.is("a place behind the text", Due.carryOut(x, "+8=ab"), 0);
        Due.looks(x, "cdgabef");
        Due.is("the greatest number", Due.carryOut(x, "+99=a"), 0);
        AnchoredNotes y = Sheets.letters(59);
        Sheets.orders(y, "+59=z");
        Due.is("the last place of all", y.letter(59), 25);
    }

    private static void writeUpToAnError() {
        Doc.sentence("Texts", "(up to the first one that returns an error, which the order returns; those ahead of it stay)");
        AnchoredNotes x = Sheets.letters(58);
        Due.is("the 61st letter is refused", Due.carryOut(x, "+0=xyz;+0=z;-0-59"), 0);
        Due.is("two stay", x.count(0), 60);
        Due.is("the first of them", x.letter(0), 23);
        Due.is("the second one", x.letter(1), 24);
        Due.is("then the text as it was", x.letter(2), 0);
        Due.is("the pad is empty", x.count(11), 0);
        Due.is("the order that is not carried out is a change", x.undo(), 1);
        Due.is("letters", x.count(0), 58);
        AnchoredNotes y = Sheets.letters(58);
        Due.is("two letters", Due.carryOut(y, "+0=xy"), 1);
        Due.is("60 letters", y.count(0), 60);
        AnchoredNotes z = Sheets.letters(60);
        Due.is("no letter", Due.carryOut(z, "+60=a"), 0);
        Due.looks(z, Sheets.alphabet(60));
    }

    private static void order(Supplier<AnchoredNotes> made, String order, int done) {
        Due.is("carry out " + order, Due.carryOut(made.get(), order), done);
        AnchoredNotes x = made.get();
        x.wipe();
        Due.is("carry out r0;x1;" + order + ";r0", Due.carryOut(x, "r0;x1;" + order + ";r0"), done == 0 ? 2 : 4);
    }

    private static AnchoredNotes sevenLetters() {
        AnchoredNotes x = Sheets.busy();
        x.wipe();
        return x;
    }

    private static void placesOfOrders() {
        Doc.sentence("Texts", "\"-\": erase() from a place to another; \"m\": move() from a place to another, to a place; \"n\": note()");
        Supplier<AnchoredNotes> made = PadBoundsTest::sevenLetters;
        String[] good = {"+0=a", "+7=a", "-0-0", "-6-6", "-0-6", "m0-0>6", "m6-6>0", "m0-6>0", "m2-4>4", "n0-0", "n6-6", "n0-6"};
        for (String order : good) {
            order(made, order, 1);
        }
        String[] bad = {"+8=a", "-7-7", "-0-7", "-1-0", "-99-99", "m0-0>7", "m7-7>0", "m0-6>1", "m0-7>0", "m1-0>0", "m2-4>5",
            "n7-7", "n0-7", "n1-0", "n99-99", "n0-99"};
        for (String order : bad) {
            order(made, order, 0);
        }
        AnchoredNotes x = Sheets.letters(60);
        Sheets.orders(x, "m0-0>59;m59-59>0;n59-59;n0-59;-59-59");
        Due.is("letters", x.count(0), 59);
        Due.is("the note to the last one is an orphan", x.of(0, 0), 1);
        Due.is("the note to all stands", x.of(1, 4), 59);
    }

    private static void notesOfOrders() {
        Doc.sentence("Texts", "\"r\": reply(); \"x\": drop(); \"c\": reclaim()");
        Supplier<AnchoredNotes> made = PadBoundsTest::sevenLetters;
        for (String order : new String[] {"r0", "r2", "x0", "x2", "c1"}) {
            Due.is("carry out " + order, Due.carryOut(made.get(), order), 1);
        }
        for (String order : new String[] {"r3", "r16", "r32", "r99", "x3", "x16", "x32", "x99", "c0", "c2", "c3", "c16", "c33", "c99"}) {
            Due.is("carry out " + order, Due.carryOut(made.get(), order), 0);
        }
        AnchoredNotes x = Sheets.chain("ab", 15);
        Due.is("a 16th one, and no 17th", Due.carryOut(x, "r14;r15;x0"), 1);
        Due.is("notes", x.count(1), 16);
        Due.is("the last one of 16 is dropped, and there is no other", Due.carryOut(x, "x15;x15"), 1);
        Due.is("notes", x.count(1), 15);
    }

    private static void upToTheFirstError() {
        Doc.sentence("Promise 22", "Carries the orders of the pad out, one after the other, up to the first one that returns an error, and empties the pad.");
        String[] orders = {"+0=a", "+1=b", "+2=c", "+3=d"};
        for (int wrong = 0; wrong <= orders.length; wrong++) {
            StringBuilder text = new StringBuilder();
            for (int order = 0; order < orders.length; order++) {
                text.append(order > 0 ? ";" : "").append(order == wrong ? "x9" : orders[order]);
            }
            AnchoredNotes x = Sheets.empty();
            Due.is("carry out " + text, Due.carryOut(x, text.toString()), wrong);
            Due.looks(x, "abcd".substring(0, wrong));
            Due.is("the pad is empty", x.count(11), 0);
            Due.is("so that nothing is there to carry out", x.carryOut(), BAD_TEXT);
        }
    }

    private static void mostOrders() {
        Doc.sentence("Promise 22", "Returns how many orders were carried out");
        AnchoredNotes x = Sheets.notes("a", 1, 0, 0);
        Due.is("the shortest text", Due.carryOut(x, "r0"), 1);
        StringBuilder orders = new StringBuilder("r0");
        for (int order = 1; order < 27; order++) {
            orders.append(order % 2 == 0 ? ";r0" : ";x2");
        }
        Due.is("characters", orders.length(), 80);
        Due.is("27 orders", Due.carryOut(x, orders.toString()), 27);
        Due.is("notes", x.count(1), 3);
        AnchoredNotes y = Sheets.empty();
        Due.is("no order", Due.carryOut(y, "x0;" + "r1;".repeat(25) + "r1"), 0);
    }

    private static void carryOutIsOneChange() {
        Doc.sentence("Promise 22", "This is a change (one, with all of them; also if none is carried out).");
        AnchoredNotes x = Sheets.empty();
        Due.is("carry out three", Due.carryOut(x, "+0=abc;-0-0;n0-1"), 3);
        Due.is("changes", x.count(12), 1);
        Due.is("carry out none", Due.carryOut(x, "x9"), 0);
        Due.is("changes", x.count(12), 2);
        Due.is("undo()", x.undo(), 1);
        Due.looks(x, "bc");
        Due.is("undo()", x.undo(), 0);
        Due.looks(x, "");
        Due.is("notes", x.count(1), 0);
        for (int change = 0; change < 7; change++) {
            Due.is("carry out none", Due.carryOut(x, "x9"), 0);
        }
        Due.is("changes, no more than six", x.count(12), 6);
    }

    private static void badText() {
        Doc.sentence("Promise 22", "BAD_TEXT if the pad has a fault (then it stays)");
        Same.refused("carryOut() of an empty pad", Sheets::empty, AnchoredNotes::carryOut, BAD_TEXT);
        for (String text : new String[] {"!", "+", "+0=", "+0=a;", "+0=a;!", "+0=a;r100", "+0=a;x00"}) {
            Same.refused("carryOut() of " + text, () -> pad(text), AnchoredNotes::carryOut, BAD_TEXT);
            AnchoredNotes x = Sheets.busy();
            x.wipe();
            Due.put(x, text);
            String before = Same.look(x);
            Due.is("carryOut() of " + text, x.carryOut(), BAD_TEXT);
            Due.holds("nothing is changed", Same.look(x).equals(before));
            Due.is("it stays", x.wipe(), text.length());
        }
        String most = "r1;".repeat(26);
        Same.refused("carryOut() of a full pad", () -> pad(most + "R1"), AnchoredNotes::carryOut, BAD_TEXT);
        AnchoredNotes y = pad("+0=ab;-0");
        Due.is("it ends too early", y.carryOut(), BAD_TEXT);
        Due.is("nothing is written", y.count(0), 0);
        Due.is("the rest is put", y.put(Due.packed("-0")), 10);
        Due.is("carryOut()", y.carryOut(), 2);
        Due.looks(y, "b");
    }
}
