import java.util.ArrayDeque;
import java.util.ArrayList;
import java.util.Comparator;
import java.util.HashMap;
import java.util.HashSet;
import java.util.List;
import java.util.Map;
import java.util.Set;
import java.util.regex.Matcher;
import java.util.regex.Pattern;

/**
 * The document once more, in another way: letters have names of their own, states are values that are copied whole,
 * texts are read by patterns. RunsTest holds the class against it.
 */
final class Model {
    static final int NO_SUCH = -1, BAD_VALUE = -2, BAD_TEXT = -3, TOO_MANY = -4, NOT_POSSIBLE = -5, NONE = -6;

    private static final String NUMBER = "(?:0|[1-9][0-9]?)";
    private static final String ORDER = "(?:\\+" + NUMBER + "=[a-z]+|[-n]" + NUMBER + "-" + NUMBER + "|m" + NUMBER
        + "-" + NUMBER + ">" + NUMBER + "|[rxc]" + NUMBER + ")";
    private static final Pattern TEXT = Pattern.compile(ORDER + "(?:;" + ORDER + ")*");

    private record Letter(int name, int look) {
    }

    private record Remark(int target, Set<Integer> own, String words, String ahead, String behind) {
        boolean isReply() {
            return target != NONE;
        }

        Remark to(int other) {
            return new Remark(other, own, words, ahead, behind);
        }
    }

    private record Piece(int first, int last) {
        int size() {
            return last - first + 1;
        }
    }

    private record State(List<Letter> text, List<Remark> notes, List<Integer> settings) {
        State copy() {
            return new State(new ArrayList<>(text), new ArrayList<>(notes), new ArrayList<>(settings));
        }
    }

    private int names = 0;
    private State now = new State(new ArrayList<>(), new ArrayList<>(), new ArrayList<>(List.of(3, 12, 2)));
    private String pad = "";
    private final ArrayDeque<State> past = new ArrayDeque<>();
    private final State[] slots = new State[2];

    private int changed(State before, int answer) {
        if (answer >= 0) {
            past.addLast(before);
            if (past.size() > 6) {
                past.removeFirst();
            }
        }
        return answer;
    }

    private String looks() {
        StringBuilder looks = new StringBuilder();
        for (Letter letter : now.text) {
            looks.append((char) ('a' + letter.look));
        }
        return looks.toString();
    }

    private boolean isPlace(int place) {
        return place >= 0 && place < now.text.size();
    }

    private boolean isNote(int note) {
        return note >= 0 && note < now.notes.size();
    }

    // ---- the text

    int set(int setting, int value) {
        int[][] ranges = {{0, 8}, {1, 60}, {1, 9}};
        if (setting < 0 || setting > 2 || value < ranges[setting][0] || value > ranges[setting][1]) {
            return BAD_VALUE;
        }
        State before = now.copy();
        return changed(before, now.settings.set(setting, value));
    }

    int write(int place, int letter) {
        State before = now.copy();
        return changed(before, plainWrite(place, letter));
    }

    private int plainWrite(int place, int letter) {
        if (place != now.text.size() && !isPlace(place)) {
            return NO_SUCH;
        }
        if (letter < 0 || letter > 25) {
            return BAD_VALUE;
        }
        if (now.text.size() == 60) {
            return TOO_MANY;
        }
        now.text.add(place, new Letter(names++, letter));
        return now.text.size();
    }

    private int passage(int from, int to) {
        return !isPlace(from) || !isPlace(to) ? NO_SUCH : to < from ? BAD_VALUE : 0;
    }

    int erase(int from, int to) {
        State before = now.copy();
        return changed(before, plainErase(from, to));
    }

    private int plainErase(int from, int to) {
        if (passage(from, to) < 0) {
            return passage(from, to);
        }
        int orphans = orphans().size();
        now.text.subList(from, to + 1).clear();
        return orphans().size() - orphans;
    }

    int move(int from, int to, int place) {
        State before = now.copy();
        return changed(before, plainMove(from, to, place));
    }

    private int plainMove(int from, int to, int place) {
        if (passage(from, to) < 0) {
            return passage(from, to);
        }
        List<Letter> moved = new ArrayList<>(now.text.subList(from, to + 1));
        if (place < 0 || place > now.text.size() - moved.size()) {
            return BAD_VALUE;
        }
        now.text.subList(from, to + 1).clear();
        now.text.addAll(place, moved);
        return count(4);
    }

    // ---- notes

    private Set<Integer> orphans() {
        Set<Integer> orphans = new HashSet<>();
        for (int note = 0; note < now.notes.size(); note++) {
            if (!now.notes.get(note).isReply() && pieces(note).isEmpty()) {
                orphans.add(note);
            }
        }
        return orphans;
    }

    private List<Piece> pieces(int note) {
        StringBuilder own = new StringBuilder();
        for (Letter letter : now.text) {
            own.append(now.notes.get(note).own.contains(letter.name) ? 'o' : '.');
        }
        List<Piece> pieces = new ArrayList<>();
        Matcher matcher = Pattern.compile("o+").matcher(own);
        while (matcher.find()) {
            pieces.add(new Piece(matcher.start(), matcher.end() - 1));
        }
        return pieces;
    }

    private Piece standing(int note) {
        Piece best = null;
        for (Piece piece : pieces(root(note))) {
            if (best == null || piece.size() > best.size()) {
                best = piece;
            }
        }
        return best;
    }

    private int root(int note) {
        Remark remark = now.notes.get(note);
        return remark.isReply() ? root(remark.target) : note;
    }

    private int depth(int note) {
        Remark remark = now.notes.get(note);
        return remark.isReply() ? 1 + depth(remark.target) : 0;
    }

    private Set<Integer> family(int note) {
        Set<Integer> family = new HashSet<>(Set.of(note));
        for (int other = 0; other < now.notes.size(); other++) {
            if (now.notes.get(other).target == note) {
                family.addAll(family(other));
            }
        }
        return family;
    }

    private Remark remark(int from, int to) {
        String looks = looks();
        int around = now.settings.get(0);
        Set<Integer> own = new HashSet<>();
        for (Letter letter : now.text.subList(from, to + 1)) {
            own.add(letter.name);
        }
        return new Remark(NONE, own, looks.substring(from, to + 1), looks.substring(Math.max(0, from - around), from),
            looks.substring(to + 1, Math.min(looks.length(), to + 1 + around)));
    }

    int note(int from, int to) {
        State before = now.copy();
        return changed(before, plainNote(from, to));
    }

    private int plainNote(int from, int to) {
        if (passage(from, to) < 0) {
            return passage(from, to);
        }
        if (now.notes.size() == 16) {
            return TOO_MANY;
        }
        now.notes.add(remark(from, to));
        return now.notes.size() - 1;
    }

    int reply(int note) {
        State before = now.copy();
        return changed(before, plainReply(note));
    }

    private int plainReply(int note) {
        if (!isNote(note)) {
            return NO_SUCH;
        }
        if (now.notes.size() == 16) {
            return TOO_MANY;
        }
        now.notes.add(new Remark(note, Set.of(), "", "", ""));
        return now.notes.size() - 1;
    }

    int drop(int note) {
        State before = now.copy();
        return changed(before, plainDrop(note));
    }

    private int plainDrop(int note) {
        if (!isNote(note)) {
            return NO_SUCH;
        }
        Set<Integer> gone = family(note);
        Map<Integer, Integer> numbers = new HashMap<>(Map.of(NONE, NONE));
        List<Remark> left = new ArrayList<>();
        for (int other = 0; other < now.notes.size(); other++) {
            if (!gone.contains(other)) {
                numbers.put(other, left.size());
                left.add(now.notes.get(other));
            }
        }
        now.notes.clear();
        for (Remark remark : left) {
            now.notes.add(remark.to(numbers.get(remark.target)));
        }
        return gone.size();
    }

    int reclaim(int note) {
        State before = now.copy();
        return changed(before, plainReclaim(note));
    }

    private int plainReclaim(int note) {
        int place = could(note, 0);
        if (place < 0) {
            return place == NONE ? NOT_POSSIBLE : place;
        }
        now.notes.set(note, remark(place, place + now.notes.get(note).words.length() - 1));
        return place;
    }

    // ---- what there is

    int letter(int place) {
        return isPlace(place) ? now.text.get(place).look : NO_SUCH;
    }

    int of(int note, int what) {
        if (!isNote(note)) {
            return NO_SUCH;
        }
        if (what < 0 || what > 8) {
            return BAD_VALUE;
        }
        Remark remark = now.notes.get(note);
        Piece piece = standing(note);
        List<Piece> pieces = pieces(note);
        int letters = pieces.stream().mapToInt(Piece::size).sum();
        return switch (what) {
            case 0 -> remark.isReply() ? 2 : piece == null ? 1 : 0;
            case 1 -> piece == null ? NONE : piece.first;
            case 2 -> piece == null ? NONE : piece.last;
            case 3 -> remark.isReply() ? NONE : remark.words.length();
            case 4 -> remark.isReply() ? NONE : letters;
            case 5 -> remark.isReply() ? NONE : pieces.size();
            case 6 -> remark.target;
            case 7 -> family(note).size() - 1;
            default -> depth(note);
        };
    }

    int word(int note, int place) {
        if (!isNote(note)) {
            return NO_SUCH;
        }
        Remark remark = now.notes.get(note);
        if (remark.isReply()) {
            return NONE;
        }
        return place < 0 || place >= remark.words.length() ? NO_SUCH : remark.words.charAt(place) - 'a';
    }

    int at(int place) {
        if (!isPlace(place)) {
            return NO_SUCH;
        }
        int set = 0;
        for (int note = 0; note < now.notes.size(); note++) {
            if (now.notes.get(note).own.contains(now.text.get(place).name)) {
                set |= 1 << note;
            }
        }
        return set;
    }

    /** For each note that is printed its line and its leader. */
    private Map<Integer, int[]> margin(int room) {
        List<Integer> order = new ArrayList<>();
        for (int note = 0; note < now.notes.size(); note++) {
            if (!now.notes.get(note).isReply() && standing(note) != null) {
                order.add(note);
            }
        }
        order.sort(Comparator.comparingInt((Integer note) -> standing(note).first).thenComparingInt(note -> note));
        Map<Integer, Integer> used = new HashMap<>();
        Map<Integer, int[]> margin = new HashMap<>();
        for (int note : order) {
            int own = standing(note).first / now.settings.get(1);
            int line = own;
            while (used.getOrDefault(line, 0) >= room) {
                line++;
            }
            used.merge(line, 1, Integer::sum);
            margin.put(note, new int[] {line, line - own});
        }
        return margin;
    }

    int printed(int note, int what) {
        if (!isNote(note)) {
            return NO_SUCH;
        }
        if (what < 0 || what > 1) {
            return BAD_VALUE;
        }
        int[] printed = margin(now.settings.get(2)).get(note);
        return printed == null ? NONE : printed[what];
    }

    int count(int what) {
        if (what < 0 || what > 12) {
            return BAD_VALUE;
        }
        int replies = 0;
        int parted = 0;
        for (int note = 0; note < now.notes.size(); note++) {
            replies += now.notes.get(note).isReply() ? 1 : 0;
            parted += pieces(note).size() > 1 ? 1 : 0;
        }
        int last = NONE;
        int leaders = 0;
        for (int[] printed : margin(now.settings.get(2)).values()) {
            last = Math.max(last, printed[0]);
            leaders += printed[1];
        }
        int width = now.settings.get(1);
        int[] counts = {now.text.size(), now.notes.size(), orphans().size(), replies, parted,
            (now.text.size() + width - 1) / width, last, leaders, now.settings.get(0), width, now.settings.get(2),
            pad.length(), past.size()};
        return counts[what];
    }

    // ---- what if

    int orphansIf(int from, int to) {
        if (passage(from, to) < 0) {
            return passage(from, to);
        }
        State before = now;
        Set<Integer> already = orphans();
        now = now.copy();
        now.text.subList(from, to + 1).clear();
        Set<Integer> then = orphans();
        now = before;
        then.removeAll(already);
        return then.stream().mapToInt(note -> 1 << note).sum();
    }

    int could(int note, int what) {
        if (!isNote(note)) {
            return NO_SUCH;
        }
        if (what < 0 || what > 2) {
            return BAD_VALUE;
        }
        if (!orphans().contains(note)) {
            return NOT_POSSIBLE;
        }
        Remark remark = now.notes.get(note);
        String looks = looks();
        int place = NONE;
        int likeness = NONE;
        int places = 0;
        for (int at = looks.indexOf(remark.words); at >= 0; at = looks.indexOf(remark.words, at + 1)) {
            String ahead = looks.substring(0, at);
            String behind = looks.substring(at + remark.words.length());
            int like = 0;
            for (int size = 1; size <= remark.ahead.length(); size++) {
                like += ahead.endsWith(remark.ahead.substring(remark.ahead.length() - size)) ? 1 : 0;
            }
            for (int size = 1; size <= remark.behind.length(); size++) {
                like += behind.startsWith(remark.behind.substring(0, size)) ? 1 : 0;
            }
            if (like > likeness) {
                place = at;
                likeness = like;
            }
            places++;
        }
        return places == 0 ? NONE : what == 0 ? place : what == 1 ? likeness : places;
    }

    int leastRoom(int leader) {
        if (leader < 0 || leader > 60) {
            return BAD_VALUE;
        }
        for (int room = 1; room <= 9; room++) {
            if (margin(room).values().stream().allMatch(printed -> printed[1] <= leader)) {
                return room;
            }
        }
        return NONE;
    }

    // ---- texts

    int put(long characters) {
        StringBuilder all = new StringBuilder();
        for (int shift = 56; shift >= 0; shift -= 8) {
            all.append((char) (characters >> shift & 255));
        }
        String text = all.substring(all.length() - all.toString().replaceFirst("^\0+", "").length());
        if (!text.matches("[!-~]{1,8}")) {
            return BAD_VALUE;
        }
        if (pad.length() + text.length() > 80) {
            return TOO_MANY;
        }
        pad += text;
        return pad.length();
    }

    int wipe() {
        int length = pad.length();
        pad = "";
        return length;
    }

    int fault() {
        if (TEXT.matcher(pad).matches()) {
            return NONE;
        }
        for (int size = 1; size <= pad.length(); size++) {
            Matcher matcher = TEXT.matcher(pad.substring(0, size));
            if (!matcher.matches() && !matcher.hitEnd()) {
                return size - 1;
            }
        }
        return pad.length();
    }

    int carryOut() {
        if (fault() != NONE) {
            return BAD_TEXT;
        }
        State before = now.copy();
        int done = 0;
        for (String order : pad.split(";")) {
            if (obey(order) < 0) {
                break;
            }
            done++;
        }
        pad = "";
        return changed(before, done);
    }

    private int obey(String order) {
        String[] parts = order.substring(1).split("[-=>]");
        int first = Integer.parseInt(parts[0]);
        int second = parts.length > 1 && order.charAt(0) != '+' ? Integer.parseInt(parts[1]) : 0;
        return switch (order.charAt(0)) {
            case '+' -> {
                int answer = 0;
                for (int i = 0; i < parts[1].length() && answer >= 0; i++) {
                    answer = plainWrite(first + i, parts[1].charAt(i) - 'a');
                }
                yield answer;
            }
            case '-' -> plainErase(first, second);
            case 'm' -> plainMove(first, second, Integer.parseInt(parts[2]));
            case 'n' -> plainNote(first, second);
            case 'r' -> plainReply(first);
            case 'x' -> plainDrop(first);
            default -> plainReclaim(first);
        };
    }

    // ---- undo, saving

    int undo() {
        if (past.isEmpty()) {
            return NOT_POSSIBLE;
        }
        now = past.removeLast();
        return past.size();
    }

    int save(int slot) {
        if (slot < 0 || slot > 1) {
            return BAD_VALUE;
        }
        slots[slot] = now.copy();
        return now.text.size();
    }

    int restore(int slot) {
        if (slot < 0 || slot > 1) {
            return BAD_VALUE;
        }
        if (slots[slot] == null) {
            return NOT_POSSIBLE;
        }
        State before = now;
        now = slots[slot].copy();
        return changed(before, now.text.size());
    }
}
