/** Promises 19 to 22: put, wipe, fault, carryOut. */
public final class PadTest {
    public static void main(String[] args) {
        put();
        putIsFull();
        wipe();
        faults();
        faultsOfNumbers();
        noFaults();
        carryOut();
        carryOutUpToAnError();
        carryOutPartly();
        carryOutOfLongNumbers();
        carryOutIsOneChange();
        Due.close();
    }

    private static void put() {
        AnchoredNotes x = new AnchoredNotes();
        Due.is("put(0)", x.put(0L), -2);
        Due.is("a code of 32", x.put(32L), -2);
        Due.is("a code of 127", x.put(127L), -2);
        Due.is("a code of 255", x.put(255L), -2);
        Due.is("a code of 33", x.put(33L), 1);
        Due.is("a code of 126", x.put(126L), 2);
        Due.is("a wrong code ahead", x.put(32L << 8 | 'a'), -2);
        Due.is("a wrong last code", x.put('a' << 8 | 32L), -2);
        Due.is("something above 8 bits that are 0", x.put(1L << 16 | 'a'), -2);
        Due.is("a good code above 8 bits that are 0", x.put((long) 'b' << 56 | 'a'), -2);
        Due.is("no last character", x.put((long) 'b' << 8), -2);
        Due.is("the highest bit", x.put(Long.MIN_VALUE), -2);
        Due.is("all bits", x.put(-1L), -2);
        Due.is("eight with a wrong first one", x.put(Due.packed("abcdefgh") | 1L << 63), -2);
        Due.is("eight", x.put(Due.packed("abcdefgh")), 10);
        Due.is("the length", x.count(11), 10);
        Due.is("no change", x.count(12), 0);
    }

    private static void putIsFull() {
        AnchoredNotes x = new AnchoredNotes();
        for (int part = 1; part < 10; part++) {
            Due.is("put a part", x.put(Due.packed("+0=aaaaa")), 8 * part);
        }
        Due.is("put 7", x.put(Due.packed("aaaaaaa")), 79);
        Due.is("put 2", x.put(Due.packed("aa")), -4);
        Due.is("a bad value comes first", x.put(Due.packed("a") << 8), -2);
        Due.is("put 1", x.put(Due.packed("a")), 80);
        Due.is("put 1 more", x.put(Due.packed("a")), -4);
        Due.is("the length", x.count(11), 80);
    }

    private static void wipe() {
        AnchoredNotes x = new AnchoredNotes();
        Due.is("wipe() of an empty pad", x.wipe(), 0);
        Due.put(x, "+0=abc");
        Due.is("wipe()", x.wipe(), 6);
        Due.is("the length", x.count(11), 0);
        Due.is("the fault", x.fault(), 0);
        Due.is("no change", x.count(12), 0);
    }

    private static void fault(String text, int index) {
        Due.is("the fault of '" + text + "'", Due.fault(text), index);
    }

    private static void faults() {
        fault("", 0);
        fault("a", 0);
        fault("+", 1);
        fault("+=", 1);
        fault("+0", 2);
        fault("+0a", 2);
        fault("+0=", 3);
        fault("+0=;", 3);
        fault("+0=A", 3);
        fault("+0=a`", 4);
        fault("+0=a{", 4);
        fault("+0=ab1", 5);
        fault("+0=ab;", 6);
        fault("+0=ab;;", 6);
        fault("-1", 2);
        fault("-1-", 3);
        fault("-1>2", 2);
        fault("--1", 1);
        fault("m1-2", 4);
        fault("m1-2-3", 4);
        fault("m1-2>", 5);
        fault("m1>2", 2);
        fault("n1-", 3);
        fault("n1-2>3", 4);
        fault("r", 1);
        fault("r1-1", 2);
        fault("x;", 1);
        fault("c1c", 2);
        fault("y1", 0);
        fault("r1;Z", 3);
        fault("r1;r2;r", 7);
    }

    private static void faultsOfNumbers() {
        fault("r00", 2);
        fault("r01", 2);
        fault("r100", 3);
        fault("r99;x100", 7);
        fault("n1-01", 4);
        fault("m0-0>100", 7);
        fault("+100=a", 3);
        fault("r/", 1);
        fault("r:", 1);
        fault("r1:", 2);
    }

    private static void noFaults() {
        fault("+0=a", -6);
        fault("+99=mnrxc", -6);
        fault("-0-99", -6);
        fault("m10-2>3", -6);
        fault("n9-10", -6);
        fault("r0;x0;c99", -6);
        fault("+0=z;r1;-5-4", -6);
        String most = "r1;r2;r3;r4;r5;r6;r7;r8;r9;r1;r2;r3;r4;r5;r6;r7;r8;r9;r1;r2;r3;r4;r5;r6;r7;r8;r9";
        fault(most.substring(0, 80), -6);
        fault(most.substring(0, 79), 79);
        fault(most.substring(0, 78), 78);
        fault(most.substring(0, 78) + ";;", 78);
    }

    private static void carryOut() {
        AnchoredNotes x = new AnchoredNotes();
        Due.is("an empty pad", x.carryOut(), -3);
        Due.is("every kind", Due.carryOut(x, "+0=abcd;n1-2;r0;r1;-1-2;+0=bc;c0;m0-0>2;x2"), 9);
        Due.looks(x, "cabd");
        Due.is("the pad is empty", x.count(11), 0);
        Due.is("notes", x.count(1), 2);
        Due.is("pieces", x.of(0, 5), 2);
        Due.is("a reply", x.of(1, 6), 0);
        Due.is("letters are inserted one behind the other", Due.carryOut(x, "+1=xyz"), 1);
        Due.looks(x, "cxyzabd");
        Due.put(x, "+0=a;-");
        Due.is("a fault", x.carryOut(), -3);
        Due.is("then the pad stays", x.count(11), 6);
        Due.looks(x, "cxyzabd");
        Due.put(x, "0-1");
        Due.is("the rest is put", x.carryOut(), 2);
        Due.looks(x, "xyzabd");
    }

    private static void carryOutUpToAnError() {
        String[] wrong = {"+9=a", "-9-9", "-1-0", "m9-9>0", "m1-0>0", "m0-0>9", "n9-9", "n1-0", "r9", "x9", "c9", "c0"};
        for (String order : wrong) {
            AnchoredNotes x = Due.text("ab");
            x.note(0, 0);
            Due.is("up to " + order, Due.carryOut(x, "+0=c;" + order + ";+0=d"), 1);
            Due.looks(x, "cab");
            Due.is("notes", x.count(1), 1);
            Due.is("the pad is empty", x.count(11), 0);
        }
    }

    private static void carryOutPartly() {
        AnchoredNotes x = Due.text("abcdefghijklmnopqrstuvwxyzabcdefghijklmnopqrstuvwxyzabcdef");
        Due.is("letters", x.count(0), 58);
        Due.is("too many letters", Due.carryOut(x, "+0=xyz;-0-0"), 0);
        Due.is("those ahead stay", x.count(0), 60);
        Due.is("letter(0)", x.letter(0), 23);
        Due.is("letter(1)", x.letter(1), 24);
        Due.is("letter(2)", x.letter(2), 0);
        Due.is("all that is one change", x.undo(), 5);
        Due.is("letters", x.count(0), 58);
    }

    private static void carryOutOfLongNumbers() {
        AnchoredNotes x = Due.text("abcdefghijklmnopqrstuvwxyzabcdefghijklmnopqrstuvwxyz");
        Due.is("numbers of two digits", Due.carryOut(x, "+52=yz;n30-41;-10-29;m20-31>11;n12-33"), 5);
        Due.is("from", x.of(1, 1), 12);
        Due.is("to", x.of(1, 2), 33);
        Due.looks(x, "abcdefghijeopqrstuvwxyzfghijklmnyz");
    }

    private static void carryOutIsOneChange() {
        AnchoredNotes x = new AnchoredNotes();
        Due.is("carry out", Due.carryOut(x, "+0=abc;-0-0;n0-1"), 3);
        Due.is("changes", x.count(12), 1);
        Due.is("nothing is carried out", Due.carryOut(x, "x9"), 0);
        Due.is("that is a change, too", x.count(12), 2);
        Due.put(x, "x");
        Due.is("a fault", x.carryOut(), -3);
        Due.is("that is none", x.count(12), 2);
        Due.is("undo()", x.undo(), 1);
        Due.is("the pad is as it is", x.count(11), 1);
        Due.looks(x, "bc");
        Due.is("undo()", x.undo(), 0);
        Due.is("letters", x.count(0), 0);
        Due.is("notes", x.count(1), 0);
        Due.is("the pad is as it is", x.count(11), 1);
    }
}
