/** What the tests of the project share: answers that are due, and texts put in by short words. */
final class Due {
    private static int right = 0;
    private static int wrong = 0;
    private static String about = "";

    private Due() {
    }

    /** What the answers from here on are held against; it is told with each wrong one. */
    static void about(String sentence) {
        about = sentence + ": ";
    }

    static void is(String call, long got, long want) {
        if (got == want) {
            right++;
        } else {
            wrong++;
            System.out.println(about + call + " answered " + got + ", due is " + want);
        }
    }

    static void holds(String what, boolean holds) {
        is(what, holds ? 1 : 0, 1);
    }

    /** To be called at the end of each test's main. */
    static void close() {
        System.out.println(right + " passed, " + wrong + " failed");
        if (wrong != 0) {
            System.exit(1);
        }
    }

    /** A new object with a text; each letter is written by a call of write(). */
    static AnchoredNotes text(String letters) {
        AnchoredNotes x = new AnchoredNotes();
        append(x, letters);
        return x;
    }

    static void append(AnchoredNotes x, String letters) {
        for (int i = 0; i < letters.length(); i++) {
            int length = x.count(0);
            is("write a letter", x.write(length, letters.charAt(i) - 'a'), length + 1);
        }
    }

    static void looks(AnchoredNotes x, String letters) {
        StringBuilder there = new StringBuilder();
        for (int place = 0; x.letter(place) >= 0; place++) {
            there.append((char) ('a' + x.letter(place)));
        }
        if (!there.toString().equals(letters)) {
            System.out.println("the text is " + there + ", due is " + letters);
        }
        is("the text's looks", there.toString().equals(letters) ? 1 : 0, 1);
    }

    /** How a note's words look, by word(). */
    static String words(AnchoredNotes x, int note) {
        StringBuilder words = new StringBuilder();
        for (int place = 0; x.word(note, place) >= 0; place++) {
            words.append((char) ('a' + x.word(note, place)));
        }
        return words.toString();
    }

    static long packed(String characters) {
        long number = 0;
        for (int i = 0; i < characters.length(); i++) {
            number = number << 8 | characters.charAt(i);
        }
        return number;
    }

    static void put(AnchoredNotes x, String characters) {
        for (int from = 0; from < characters.length(); from += 8) {
            int to = Math.min(from + 8, characters.length());
            int length = x.count(11);
            is("put a part", x.put(packed(characters.substring(from, to))), length + to - from);
        }
    }

    static int carryOut(AnchoredNotes x, String orders) {
        put(x, orders);
        return x.carryOut();
    }

    static int fault(String characters) {
        AnchoredNotes x = new AnchoredNotes();
        put(x, characters);
        return x.fault();
    }
}
