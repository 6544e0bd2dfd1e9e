/** Long runs of many kinds of calls, each answer held against the Model's. The same runs each time. */
public final class RunsTest {
    private static final int RUNS = 400;
    private static final int CALLS = 512;
    /** More than one change makes, by a text of many orders. */
    private static final int MOST_AT_ONCE = 20;

    private long seed;
    private int calls = 0;
    private final AnchoredNotes x = new AnchoredNotes();
    private final Model model = new Model();
    private final int alphabet;

    private RunsTest(int run) {
        seed = run * 7919L + 17;
        alphabet = 1 + run % 4;
    }

    public static void main(String[] args) {
        for (int run = 0; run < RUNS; run++) {
            RunsTest test = new RunsTest(run);
            while (test.calls < CALLS - MOST_AT_ONCE) {
                test.call("run " + run + ", call " + test.calls + ": ");
            }
            while (test.calls < CALLS) {
                test.ask("run " + run + ", call " + test.calls + ": ");
            }
        }
        Due.close();
    }

    private void due(String call, int got, int want) {
        calls++;
        Due.is(call, got, want);
    }

    private int below(int bound) {
        seed = seed * 6364136223846793005L + 1442695040888963407L;
        return (int) ((seed >>> 33) % bound);
    }

    /** Mostly 0 to bound, seldom something far out. */
    private int about(int bound) {
        return switch (below(40)) {
            case 0 -> -1;
            case 1 -> bound + 1 + below(3);
            case 2 -> below(2) == 0 ? Integer.MIN_VALUE : Integer.MAX_VALUE;
            default -> below(bound + 1);
        };
    }

    private int place() {
        return about(Math.max(0, model.count(0) - 1));
    }

    private int note() {
        return about(Math.max(0, model.count(1) - 1));
    }

    /** Mostly a little behind the start. */
    private int end(int from) {
        return below(6) == 0 ? place() : from + below(5);
    }

    private void call(String run) {
        if (below(2) == 0) {
            change(run);
        } else {
            ask(run);
        }
    }

    private void change(String run) {
        int from = place();
        int to = end(from);
        int note = note();
        int place = about(model.count(0));
        int letter = below(30) == 0 ? about(25) : below(alphabet);
        switch (below(18)) {
            case 0 -> setting(run);
            case 1, 2, 3, 4, 5 -> due(run + "write(" + place + ", " + letter + ")", x.write(place, letter), model.write(place, letter));
            case 6, 7 -> due(run + "erase(" + from + ", " + to + ")", x.erase(from, to), model.erase(from, to));
            case 8, 9 -> due(run + "move(" + from + ", " + to + ", " + place + ")", x.move(from, to, place), model.move(from, to, place));
            case 10, 11 -> due(run + "note(" + from + ", " + to + ")", x.note(from, to), model.note(from, to));
            case 12 -> due(run + "reply(" + note + ")", x.reply(note), model.reply(note));
            case 13 -> drop(run, note);
            case 14 -> due(run + "reclaim(" + note + ")", x.reclaim(note), model.reclaim(note));
            case 15 -> undoOrSlots(run);
            default -> texts(run);
        }
    }

    private void setting(String run) {
        int[] most = {8, 60, 9};
        int setting = about(2);
        int value = about(setting >= 0 && setting < 3 ? most[setting] : 9);
        due(run + "set(" + setting + ", " + value + ")", x.set(setting, value), model.set(setting, value));
    }

    private void drop(String run, int note) {
        // Not each time, for the notes to become many.
        if (below(3) == 0) {
            due(run + "drop(" + note + ")", x.drop(note), model.drop(note));
        }
    }

    private void undoOrSlots(String run) {
        int slot = about(1);
        switch (below(4)) {
            case 0 -> due(run + "save(" + slot + ")", x.save(slot), model.save(slot));
            case 1 -> due(run + "restore(" + slot + ")", x.restore(slot), model.restore(slot));
            default -> due(run + "undo()", x.undo(), model.undo());
        }
    }

    private void texts(String run) {
        switch (below(10)) {
            case 0 -> due(run + "wipe()", x.wipe(), model.wipe());
            case 1, 2 -> due(run + "carryOut()", x.carryOut(), model.carryOut());
            case 3 -> put(run, (long) below(1 << 30) << 33 | below(1 << 30));
            case 4 -> put(run, Due.packed(String.valueOf((char) (33 + below(94)))));
            default -> orders(run);
        }
    }

    private void put(String run, long characters) {
        due(run + "put(" + characters + ")", x.put(characters), model.put(characters));
    }

    private void orders(String run) {
        StringBuilder orders = new StringBuilder();
        for (int order = below(5); order >= 0; order--) {
            orders.append(order()).append(order > 0 || below(3) == 0 ? ";" : "");
        }
        for (int from = 0; from < orders.length(); from += 8) {
            put(run, Due.packed(orders.substring(from, Math.min(from + 8, orders.length()))));
        }
        due(run + "fault() of " + orders, x.fault(), model.fault());
        if (below(3) > 0) {
            due(run + "carryOut() of " + orders, x.carryOut(), model.carryOut());
        }
    }

    private String order() {
        int from = below(model.count(0) + 1);
        int to = from + below(4);
        int note = below(model.count(1) + 1);
        String text = switch (below(8)) {
            case 0, 1 -> "+" + from + "=" + "abcabacbaabcbca".substring(0, 1 + below(15));
            case 2 -> "-" + from + "-" + to;
            case 3 -> "m" + from + "-" + to + ">" + below(model.count(0) + 1);
            case 4 -> "n" + from + "-" + to;
            case 5 -> "r" + note;
            case 6 -> "x" + note;
            default -> "c" + note;
        };
        if (below(12) > 0) {
            return text;
        }
        int cut = below(text.length());
        return text.substring(0, cut) + "0123456789;+-=>mnrxcz".charAt(below(21)) + text.substring(cut + below(2));
    }

    private void ask(String run) {
        int from = place();
        int to = end(from);
        int note = note();
        int what = about(8);
        int which = about(2);
        int counted = about(12);
        int leader = below(3) == 0 ? about(60) : about(4);
        switch (below(11)) {
            case 0 -> due(run + "letter(" + from + ")", x.letter(from), model.letter(from));
            case 1, 2 -> due(run + "of(" + note + ", " + what + ")", x.of(note, what), model.of(note, what));
            case 3 -> due(run + "word(" + note + ", " + which + ")", x.word(note, which), model.word(note, which));
            case 4 -> due(run + "at(" + from + ")", x.at(from), model.at(from));
            case 5 -> due(run + "printed(" + note + ", " + which + ")", x.printed(note, which), model.printed(note, which));
            case 6, 7 -> due(run + "count(" + counted + ")", x.count(counted), model.count(counted));
            case 8 -> due(run + "orphansIf(" + from + ", " + to + ")", x.orphansIf(from, to), model.orphansIf(from, to));
            case 9 -> due(run + "could(" + note + ", " + which + ")", x.could(note, which), model.could(note, which));
            default -> due(run + "leastRoom(" + leader + ")", x.leastRoom(leader), model.leastRoom(leader));
        }
    }
}
