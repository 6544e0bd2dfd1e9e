import java.util.LinkedHashMap;
import java.util.Map;
import java.util.function.Consumer;
import java.util.function.Supplier;
import java.util.function.ToIntFunction;

/**
 * Holds an object on which a call was refused against a twin that never had the call: whatever is done and asked
 * then has to be the same. Each question is put to new twins, so that none gets more than 512 calls.
 */
final class Same {
    private static final Map<String, Consumer<AnchoredNotes>> LATER = later();

    private Same() {
    }

    /** A call that returns an error, and changes nothing. */
    static void refused(String call, Supplier<AnchoredNotes> made, ToIntFunction<AnchoredNotes> refused, int error) {
        Due.is(call, refused.applyAsInt(made.get()), error);
        unchanged(call, made, refused);
    }

    /** A call that changes nothing, whatever it answers. */
    static void unchanged(String call, Supplier<AnchoredNotes> made, ToIntFunction<AnchoredNotes> asked) {
        for (String then : LATER.keySet()) {
            AnchoredNotes x = made.get();
            asked.applyAsInt(x);
            LATER.get(then).accept(x);
            AnchoredNotes twin = made.get();
            LATER.get(then).accept(twin);
            Due.holds(call + " changes nothing that shows " + then, look(x).equals(look(twin)));
        }
    }

    private static Map<String, Consumer<AnchoredNotes>> later() {
        Map<String, Consumer<AnchoredNotes>> later = new LinkedHashMap<>();
        for (int times = 0; times <= 7; times++) {
            int undone = times;
            later.put("after undo() " + times + " times", x -> undo(x, undone));
        }
        later.put("after a change and undo() 6 times", x -> {
            x.set(1, 7);
            undo(x, 6);
        });
        later.put("after restore(0)", x -> x.restore(0));
        later.put("after restore(1)", x -> x.restore(1));
        later.put("after carryOut()", AnchoredNotes::carryOut);
        return later;
    }

    private static void undo(AnchoredNotes x, int times) {
        for (int time = 0; time < times; time++) {
            x.undo();
        }
    }

    /** All that can be asked at once, some 390 calls if letters and notes are full. */
    static String look(AnchoredNotes x) {
        return sheet(x) + "pad " + x.count(11) + " " + x.fault() + ", changes " + x.count(12);
    }

    /** All of that but the pad and the history. */
    static String sheet(AnchoredNotes x) {
        StringBuilder look = new StringBuilder();
        for (int what = 0; what <= 10; what++) {
            look.append(x.count(what)).append(' ');
        }
        int letters = x.count(0);
        for (int place = 0; place < letters; place++) {
            look.append(x.letter(place)).append('/').append(x.at(place)).append(' ');
        }
        int notes = x.count(1);
        for (int note = 0; note < notes; note++) {
            look(x, note, look);
        }
        return look.append(x.leastRoom(0)).append(' ').toString();
    }

    private static void look(AnchoredNotes x, int note, StringBuilder look) {
        for (int what = 0; what <= 8; what++) {
            look.append(x.of(note, what)).append(' ');
        }
        int words = x.of(note, 3);
        for (int place = 0; place < words; place++) {
            look.append(x.word(note, place)).append(' ');
        }
        look.append(x.printed(note, 0)).append(' ').append(x.printed(note, 1)).append(' ');
        for (int what = 0; what <= 2; what++) {
            look.append(x.could(note, what)).append(' ');
        }
    }
}
