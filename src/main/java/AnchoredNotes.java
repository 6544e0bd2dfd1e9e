/** Margin notes that are anchored to the letters of a text and stay with them while the text is edited. */
public final class AnchoredNotes {
    public static final int NO_SUCH = -1, BAD_VALUE = -2, BAD_TEXT = -3, TOO_MANY = -4, NOT_POSSIBLE = -5, NONE = -6;
    public static final int AROUND = 0, WIDTH = 1, ROOM = 2;

    private static final int SETTINGS = 3;
    private static final int FIRST_AROUND = 3, FIRST_WIDTH = 12, FIRST_ROOM = 2;
    private static final int MOST_AROUND = 8, MOST_WIDTH = 60, MOST_ROOM = 9;
    private static final int MOST_LETTERS = 60;
    private static final int ALPHABET = 26;
    private static final int MOST_NOTES = 16;
    private static final int LONGEST_LEADER = 60;
    private static final int MOST_CHARACTERS = 80;
    private static final int MOST_AT_ONCE = 8;
    private static final int FIRST_CODE = 33, LAST_CODE = 126;
    private static final int MOST_STATES = 6;
    private static final int SLOTS = 2;

    private final Page page = new Page();
    private final Margin margin = new Margin();
    private final Search search = new Search();
    private final Row pad = new Row(MOST_CHARACTERS);
    private final OrderReader reader = new OrderReader();
    private final History history = new History();
    private final Page[] slots = new Page[SLOTS];

    public AnchoredNotes() {
    }

    // ---- the text

    public int set(int setting, int value) {
        history.keep(page);
        return history.confirm(page.changeSetting(setting, value));
    }

    public int write(int place, int letter) {
        history.keep(page);
        return history.confirm(page.writeLetter(place, letter));
    }

    public int erase(int from, int to) {
        history.keep(page);
        return history.confirm(page.eraseLetters(from, to));
    }

    public int move(int from, int to, int place) {
        history.keep(page);
        return history.confirm(page.moveLetters(from, to, place));
    }

    // ---- notes

    public int note(int from, int to) {
        history.keep(page);
        return history.confirm(page.addNote(from, to));
    }

    public int reply(int note) {
        history.keep(page);
        return history.confirm(page.addReply(note));
    }

    public int drop(int note) {
        history.keep(page);
        return history.confirm(page.dropFamily(note));
    }

    public int reclaim(int note) {
        history.keep(page);
        return history.confirm(page.reclaimNote(note, search));
    }

    // ---- what there is

    public int letter(int place) {
        return page.letters.item(place);
    }

    public int of(int note, int what) {
        Note found = page.find(note);
        if (found == null) {
            return NO_SUCH;
        }
        switch (what) {
            case 0:
                return page.state(note);
            case 1:
                return page.piecesOf(page.root(note)).first;
            case 2:
                return page.piecesOf(page.root(note)).last;
            case 3:
                return found.isReply() ? NONE : found.words.length;
            case 4:
                return found.isReply() ? NONE : page.piecesOf(note).letters;
            case 5:
                return found.isReply() ? NONE : page.piecesOf(note).pieces;
            case 6:
                return found.target;
            case 7:
                return Integer.bitCount(page.family(note)) - 1;
            case 8:
                return page.depth(note);
            default:
                return BAD_VALUE;
        }
    }

    public int word(int note, int place) {
        Note found = page.find(note);
        if (found == null) {
            return NO_SUCH;
        }
        return found.isReply() ? NONE : found.words.item(place);
    }

    public int at(int place) {
        return page.owners.item(place);
    }

    public int printed(int note, int what) {
        if (page.find(note) == null) {
            return NO_SUCH;
        }
        if (what != 0 && what != 1) {
            return BAD_VALUE;
        }
        margin.layOut(page, page.settings.item(ROOM));
        return what == 0 ? margin.lines.item(note) : margin.leaders.item(note);
    }

    public int count(int what) {
        switch (what) {
            case 0:
                return page.letters.length;
            case 1:
                return page.noteCount;
            case 2:
                return page.countState(Page.ORPHAN);
            case 3:
                return page.countState(Page.REPLY);
            case 4:
                return page.countParted();
            case 5:
                return page.countLines();
            case 6:
                margin.layOut(page, page.settings.item(ROOM));
                return margin.lastLine;
            case 7:
                margin.layOut(page, page.settings.item(ROOM));
                return margin.allLeaders;
            case 8:
            case 9:
            case 10:
                return page.settings.item(what - 8);
            case 11:
                return pad.length;
            case 12:
                return history.size;
            default:
                return BAD_VALUE;
        }
    }

    // ---- what if; nothing changes

    public int orphansIf(int from, int to) {
        return page.orphanedBy(from, to);
    }

    public int could(int note, int what) {
        Note found = page.find(note);
        if (found == null) {
            return NO_SUCH;
        }
        if (what < 0 || what > 2) {
            return BAD_VALUE;
        }
        if (page.state(note) != Page.ORPHAN) {
            return NOT_POSSIBLE;
        }
        search.look(page.letters, found);
        if (search.places == 0) {
            return NONE;
        }
        return what == 0 ? search.place : what == 1 ? search.likeness : search.places;
    }

    public int leastRoom(int leader) {
        if (leader < 0 || leader > LONGEST_LEADER) {
            return BAD_VALUE;
        }
        for (int room = 1; room <= MOST_ROOM; room++) {
            margin.layOut(page, room);
            if (margin.longestLeader <= leader) {
                return room;
            }
        }
        return NONE;
    }

    // ---- texts

    public int put(long characters) {
        int size = countCharacters(characters);
        if (size == 0) {
            return BAD_VALUE;
        }
        if (pad.length + size > MOST_CHARACTERS) {
            return TOO_MANY;
        }
        for (int behind = size - 1; behind >= 0; behind--) {
            pad.add((int) (characters >>> (8 * behind) & 255));
        }
        return pad.length;
    }

    public int wipe() {
        int length = pad.length;
        pad.clear();
        return length;
    }

    public int fault() {
        return reader.findFault(pad);
    }

    public int carryOut() {
        if (reader.findFault(pad) != NONE) {
            return BAD_TEXT;
        }
        history.keep(page);
        int done = 0;
        reader.start();
        while (done < MOST_CHARACTERS && reader.readOrder(pad) && obey() >= 0) {
            done++;
            reader.skip(pad, ';');
        }
        pad.clear();
        return history.confirm(done);
    }

    // ---- undo, saving

    public int undo() {
        return history.goBack(page) ? history.size : NOT_POSSIBLE;
    }

    public int save(int slot) {
        if (slot < 0 || slot >= slots.length) {
            return BAD_VALUE;
        }
        if (slots[slot] == null) {
            slots[slot] = new Page();
        }
        Page saved = slots[slot];
        saved.copyFrom(page);
        return page.letters.length;
    }

    public int restore(int slot) {
        if (slot < 0 || slot >= slots.length) {
            return BAD_VALUE;
        }
        Page saved = slots[slot];
        if (saved == null) {
            return NOT_POSSIBLE;
        }
        history.keep(page);
        page.copyFrom(saved);
        return history.confirm(page.letters.length);
    }

    // ---- orders

    /** Carries out the order that was read last, and returns what its method returns. */
    private int obey() {
        int first = reader.numbers.item(0);
        int second = reader.numbers.item(1);
        switch (reader.kind) {
            case '+':
                return writeRow(first);
            case '-':
                return page.eraseLetters(first, second);
            case 'm':
                return page.moveLetters(first, second, reader.numbers.item(2));
            case 'n':
                return page.addNote(first, second);
            case 'r':
                return page.addReply(first);
            case 'x':
                return page.dropFamily(first);
            case 'c':
                return page.reclaimNote(first, search);
            default:
                return NOT_POSSIBLE;
        }
    }

    private int writeRow(int place) {
        int answer = 0;
        for (int index = reader.lettersFrom; index < reader.next && answer >= 0; index++) {
            answer = page.writeLetter(place + index - reader.lettersFrom, pad.item(index) - 'a');
        }
        return answer;
    }

    /** Returns 0 if the number does not hold a row of characters as put() wants it. */
    private static int countCharacters(long characters) {
        int size = 0;
        long rest = characters;
        while (rest != 0 && size < MOST_AT_ONCE) {
            int code = (int) (rest & 255);
            if (code < FIRST_CODE || code > LAST_CODE) {
                return 0;
            }
            rest >>>= 8;
            size++;
        }
        return size;
    }

    private static boolean isIn(int set, int note) {
        return note >= 0 && note < MOST_NOTES && (set >> note & 1) != 0;
    }

    /** A row of numbers of which none is NO_SUCH, so that NO_SUCH can tell that there is no such item. */
    private static final class Row {
        final int[] items;
        int length;

        Row(int most) {
            items = new int[most < 0 ? 0 : most];
        }

        boolean has(int index) {
            return index >= 0 && index < length && index < items.length;
        }

        int item(int index) {
            return index >= 0 && index < length && index < items.length ? items[index] : NO_SUCH;
        }

        void replace(int index, int item) {
            if (has(index)) {
                items[index] = item;
            }
        }

        void insert(int index, int item) {
            if (index < 0 || index > length || length >= items.length) {
                return;
            }
            System.arraycopy(items, index, items, index + 1, length - index);
            items[index] = item;
            length++;
        }

        void add(int item) {
            if (length >= 0 && length < items.length) {
                items[length] = item;
                length++;
            }
        }

        void cut(int from, int to) {
            if (!has(from) || !has(to) || to < from) {
                return;
            }
            System.arraycopy(items, to + 1, items, from, length - to - 1);
            length -= to - from + 1;
        }

        void clear() {
            length = 0;
        }

        /** Moves the items so that the first of them stands at a place then. */
        void shift(int from, int to, int place) {
            if (place < from) {
                exchange(place, from, to);
            } else {
                exchange(from, to + 1, place + to - from);
            }
        }

        /** Lets two neighbours, first to middle - 1 and middle to last, change their places. */
        private void exchange(int first, int middle, int last) {
            turn(first, middle - 1);
            turn(middle, last);
            turn(first, last);
        }

        private void turn(int first, int last) {
            int low = first;
            int high = last;
            while (low < high && has(low) && has(high)) {
                int item = items[low];
                items[low] = items[high];
                items[high] = item;
                low++;
                high--;
            }
        }

        void copyFrom(Row other) {
            length = Math.min(other.length, items.length);
            System.arraycopy(other.items, 0, items, 0, length);
        }

        /** Takes at most so many items of another row, from an index on, by steps forwards or back. */
        void copyPart(Row other, int from, int step, int most) {
            clear();
            for (int taken = 0; taken < most && other.has(from + taken * step); taken++) {
                add(other.item(from + taken * step));
            }
        }

        /** Counts how many items of another row, up to the first that differs, are met here by such steps. */
        int countAlike(Row other, int from, int step) {
            int alike = 0;
            while (alike < other.length && item(from + alike * step) == other.item(alike)) {
                alike++;
            }
            return alike;
        }
    }

    /** A note with a passage, or a reply. Which letters are its own is told by Page.owners. */
    private static final class Note {
        int target = NONE;
        final Row words = new Row(MOST_LETTERS);
        // The nearest letter is the first one on both sides, as likeness counts from there.
        final Row ahead = new Row(MOST_AROUND);
        final Row behind = new Row(MOST_AROUND);

        boolean isReply() {
            return target != NONE;
        }

        void becomeReply(int note) {
            target = note;
            words.clear();
            ahead.clear();
            behind.clear();
        }

        void remember(Row letters, int from, int to, int around) {
            target = NONE;
            words.copyPart(letters, from, 1, to - from + 1);
            ahead.copyPart(letters, from - 1, -1, around);
            behind.copyPart(letters, to + 1, 1, around);
        }

        void copyFrom(Note other) {
            target = other.target;
            words.copyFrom(other.words);
            ahead.copyFrom(other.ahead);
            behind.copyFrom(other.behind);
        }
    }

    /** All that undo() and save() keep: the settings, the text and the notes. */
    private static final class Page {
        static final int STANDS = 0, ORPHAN = 1, REPLY = 2;

        final Row settings = new Row(SETTINGS);
        final Row letters = new Row(MOST_LETTERS);
        // For each place the set of the notes whose own its letter is. A letter that is erased never
        // comes back but with the whole page, so that these sets say all that is asked of "its letters".
        final Row owners = new Row(MOST_LETTERS);
        // A reply comes behind its note and stays there, so that a target is always a lower number.
        final Note[] notes = new Note[MOST_NOTES];
        int noteCount;
        private final Pieces pieces = new Pieces();

        Page() {
            settings.add(FIRST_AROUND);
            settings.add(FIRST_WIDTH);
            settings.add(FIRST_ROOM);
            for (int note = 0; note < notes.length; note++) {
                notes[note] = new Note();
            }
        }

        void copyFrom(Page other) {
            settings.copyFrom(other.settings);
            letters.copyFrom(other.letters);
            owners.copyFrom(other.owners);
            noteCount = other.noteCount;
            for (int note = 0; note < noteCount; note++) {
                Note mine = find(note);
                Note its = other.find(note);
                if (mine != null && its != null) {
                    mine.copyFrom(its);
                }
            }
        }

        int changeSetting(int setting, int value) {
            if (!settings.has(setting) || value < leastOf(setting) || value > mostOf(setting)) {
                return BAD_VALUE;
            }
            int previous = settings.item(setting);
            settings.replace(setting, value);
            return previous;
        }

        private static int leastOf(int setting) {
            return setting == AROUND ? 0 : 1;
        }

        private static int mostOf(int setting) {
            return setting == AROUND ? MOST_AROUND : setting == WIDTH ? MOST_WIDTH : MOST_ROOM;
        }

        // -- the text

        int writeLetter(int place, int letter) {
            if (place < 0 || place > letters.length) {
                return NO_SUCH;
            }
            if (letter < 0 || letter >= ALPHABET) {
                return BAD_VALUE;
            }
            if (letters.length >= MOST_LETTERS) {
                return TOO_MANY;
            }
            letters.insert(place, letter);
            owners.insert(place, 0);
            return letters.length;
        }

        int eraseLetters(int from, int to) {
            int orphaned = orphanedBy(from, to);
            if (orphaned < 0) {
                return orphaned;
            }
            letters.cut(from, to);
            owners.cut(from, to);
            return Integer.bitCount(orphaned);
        }

        /** The set of the notes of which letters stand in the passage and none stands elsewhere, or an error. */
        int orphanedBy(int from, int to) {
            int error = passageError(from, to);
            if (error < 0) {
                return error;
            }
            int inside = 0;
            int outside = 0;
            for (int place = 0; place < owners.length; place++) {
                if (place >= from && place <= to) {
                    inside |= owners.item(place);
                } else {
                    outside |= owners.item(place);
                }
            }
            return inside & ~outside;
        }

        int moveLetters(int from, int to, int place) {
            int error = passageError(from, to);
            if (error < 0) {
                return error;
            }
            int others = letters.length - (to - from + 1);
            if (place < 0 || place > others) {
                return BAD_VALUE;
            }
            letters.shift(from, to, place);
            owners.shift(from, to, place);
            return countParted();
        }

        private int passageError(int from, int to) {
            if (!letters.has(from) || !letters.has(to)) {
                return NO_SUCH;
            }
            return to < from ? BAD_VALUE : 0;
        }

        // -- notes

        /** Returns null if there is no such note. */
        Note find(int note) {
            return note >= 0 && note < noteCount && note < notes.length ? notes[note] : null;
        }

        int addNote(int from, int to) {
            int error = passageError(from, to);
            if (error < 0) {
                return error;
            }
            if (noteCount >= MOST_NOTES) {
                return TOO_MANY;
            }
            int note = noteCount;
            noteCount++;
            anchor(note, from, to);
            return note;
        }

        private void anchor(int note, int from, int to) {
            Note found = find(note);
            if (found == null) {
                return;
            }
            found.remember(letters, from, to, settings.item(AROUND));
            for (int place = from; place <= to && place < owners.length; place++) {
                owners.replace(place, owners.item(place) | 1 << note);
            }
        }

        int addReply(int target) {
            if (find(target) == null) {
                return NO_SUCH;
            }
            if (noteCount >= MOST_NOTES) {
                return TOO_MANY;
            }
            int note = noteCount;
            noteCount++;
            Note found = find(note);
            if (found != null) {
                found.becomeReply(target);
            }
            return note;
        }

        int dropFamily(int note) {
            if (find(note) == null) {
                return NO_SUCH;
            }
            int family = family(note);
            // From the last one on, so that no number in the set changes before its turn.
            for (int last = noteCount - 1; last >= note; last--) {
                if (isIn(family, last)) {
                    remove(last);
                }
            }
            return Integer.bitCount(family);
        }

        private void remove(int note) {
            Note gone = find(note);
            if (gone == null) {
                return;
            }
            noteCount--;
            for (int next = note; next < noteCount && next + 1 < notes.length; next++) {
                Note moved = notes[next + 1];
                notes[next] = moved;
                if (moved != null && moved.target > note) {
                    moved.target--;
                }
            }
            if (noteCount < notes.length) {
                notes[noteCount] = gone;
            }
            int below = (1 << note) - 1;
            for (int place = 0; place < owners.length; place++) {
                int set = owners.item(place);
                owners.replace(place, set & below | set >> 1 & ~below);
            }
        }

        int reclaimNote(int note, Search search) {
            Note found = find(note);
            if (found == null) {
                return NO_SUCH;
            }
            if (state(note) != ORPHAN) {
                return NOT_POSSIBLE;
            }
            search.look(letters, found);
            if (search.places == 0) {
                return NOT_POSSIBLE;
            }
            anchor(note, search.place, search.place + found.words.length - 1);
            return search.place;
        }

        // -- what there is

        int state(int note) {
            Note found = find(note);
            if (found != null && found.isReply()) {
                return REPLY;
            }
            return piecesOf(note).letters > 0 ? STANDS : ORPHAN;
        }

        /** The pieces are valid until those of another note are asked for. */
        Pieces piecesOf(int note) {
            pieces.gather(owners, note);
            return pieces;
        }

        int depth(int note) {
            int depth = 0;
            Note found = find(note);
            while (depth < MOST_NOTES && found != null && found.isReply()) {
                depth++;
                found = find(found.target);
            }
            return depth;
        }

        /** The note with a passage to which a note leads, itself if it has one. */
        int root(int note) {
            int root = note;
            for (int steps = depth(note); steps > 0; steps--) {
                Note found = find(root);
                root = found == null ? root : found.target;
            }
            return root;
        }

        /** The set of a note and all replies to it, to these, and so on. */
        int family(int note) {
            int family = 1 << note;
            for (int other = note + 1; other < noteCount; other++) {
                Note found = find(other);
                if (found != null && isIn(family, found.target)) {
                    family |= 1 << other;
                }
            }
            return family;
        }

        int countState(int wanted) {
            int notes = 0;
            for (int note = 0; note < noteCount; note++) {
                if (state(note) == wanted) {
                    notes++;
                }
            }
            return notes;
        }

        int countParted() {
            int parted = 0;
            for (int note = 0; note < noteCount; note++) {
                if (piecesOf(note).pieces > 1) {
                    parted++;
                }
            }
            return parted;
        }

        int countLines() {
            return letters.length == 0 ? 0 : lineOf(letters.length - 1) + 1;
        }

        int lineOf(int place) {
            int width = settings.item(WIDTH);
            return width < 1 ? 0 : place / width;
        }
    }

    /** What is left of a note's letters, and the piece at which it stands. */
    private static final class Pieces {
        int pieces;
        int letters;
        int first;
        int last;

        void gather(Row owners, int note) {
            pieces = 0;
            letters = 0;
            first = NONE;
            last = NONE;
            int start = 0;
            int longest = 0;
            for (int place = 0; place < owners.length; place++) {
                if (!isIn(owners.item(place), note)) {
                    start = place + 1;
                    continue;
                }
                letters++;
                if (start == place) {
                    pieces++;
                }
                int size = place - start + 1;
                if (size > longest) {
                    longest = size;
                    first = start;
                    last = place;
                }
            }
        }
    }

    /** Where an orphan could be reclaimed. */
    private static final class Search {
        int place;
        int likeness;
        int places;

        void look(Row letters, Note note) {
            place = NONE;
            likeness = NONE;
            places = 0;
            int size = note.words.length;
            for (int start = 0; start + size <= letters.length; start++) {
                if (letters.countAlike(note.words, start, 1) == size) {
                    int here = letters.countAlike(note.ahead, start - 1, -1)
                        + letters.countAlike(note.behind, start + size, 1);
                    if (places == 0 || here > likeness) {
                        place = start;
                        likeness = here;
                    }
                    places++;
                }
            }
        }
    }

    /** Where the notes of a page are printed. */
    private static final class Margin {
        // A note goes below its own line only where notes are printed on every line from there on.
        private static final int LINES = MOST_LETTERS + MOST_NOTES;

        final Row lines = new Row(MOST_NOTES);
        final Row leaders = new Row(MOST_NOTES);
        int lastLine;
        int allLeaders;
        int longestLeader;
        private final Row firsts = new Row(MOST_NOTES);
        private final Row used = new Row(LINES);

        void layOut(Page page, int room) {
            empty();
            for (int note = 0; note < page.noteCount; note++) {
                firsts.add(page.piecesOf(note).first);
                lines.add(NONE);
                leaders.add(NONE);
            }
            for (int place = 0; place < page.letters.length; place++) {
                for (int note = 0; note < page.noteCount; note++) {
                    if (firsts.item(note) == place) {
                        print(note, page.lineOf(place), room);
                    }
                }
            }
        }

        private void empty() {
            firsts.clear();
            lines.clear();
            leaders.clear();
            used.clear();
            for (int line = 0; line < LINES; line++) {
                used.add(0);
            }
            lastLine = NONE;
            allLeaders = 0;
            longestLeader = 0;
        }

        private void print(int note, int own, int room) {
            int line = own;
            while (line < LINES - 1 && used.item(line) >= room) {
                line++;
            }
            used.replace(line, used.item(line) + 1);
            lines.replace(note, line);
            leaders.replace(note, line - own);
            lastLine = Math.max(lastLine, line);
            allLeaders += line - own;
            longestLeader = Math.max(longestLeader, line - own);
        }
    }

    /** Reads the orders of a text, one after the other. */
    private static final class OrderReader {
        int next;
        int kind;
        int lettersFrom;
        final Row numbers = new Row(3);

        void start() {
            next = 0;
        }

        /** The index of the first character that cannot stand at its place, NONE if there is no fault. */
        int findFault(Row text) {
            start();
            for (int orders = 0; orders < MOST_CHARACTERS; orders++) {
                if (!readOrder(text)) {
                    return next;
                }
                if (next >= text.length) {
                    return NONE;
                }
                if (!skip(text, ';')) {
                    return next;
                }
            }
            return next;
        }

        /** If it answers false, next is the index of the character that cannot stand there, or the text's length. */
        boolean readOrder(Row text) {
            kind = text.item(next);
            numbers.clear();
            switch (kind) {
                case '+':
                    next++;
                    return readNumber(text) && skip(text, '=') && readLetters(text);
                case '-':
                case 'n':
                    next++;
                    return readNumber(text) && skip(text, '-') && readNumber(text);
                case 'm':
                    next++;
                    return readNumber(text) && skip(text, '-') && readNumber(text)
                        && skip(text, '>') && readNumber(text);
                case 'r':
                case 'x':
                case 'c':
                    next++;
                    return readNumber(text);
                default:
                    return false;
            }
        }

        boolean skip(Row text, int character) {
            if (text.item(next) != character) {
                return false;
            }
            next++;
            return true;
        }

        private boolean readNumber(Row text) {
            if (!isDigit(text.item(next))) {
                return false;
            }
            int number = text.item(next) - '0';
            next++;
            // Behind a 0, or two digits, one more digit is left to what is read next, which faults it.
            if (number != 0 && isDigit(text.item(next))) {
                number = 10 * number + text.item(next) - '0';
                next++;
            }
            numbers.add(number);
            return true;
        }

        private boolean readLetters(Row text) {
            lettersFrom = next;
            while (next < text.length && isLetter(text.item(next))) {
                next++;
            }
            return next > lettersFrom;
        }

        private static boolean isDigit(int character) {
            return character >= '0' && character <= '9';
        }

        private static boolean isLetter(int character) {
            return character >= 'a' && character <= 'z';
        }
    }

    /** The states before the latest changes, the oldest one first. */
    private static final class History {
        // One more than can be undone: the state before a change whose success is not known yet.
        private final Page[] states = new Page[MOST_STATES + 1];
        int size;

        void keep(Page page) {
            if (size < 0 || size >= states.length) {
                return;
            }
            if (states[size] == null) {
                states[size] = new Page();
            }
            Page kept = states[size];
            kept.copyFrom(page);
        }

        /** Records the state that was kept, unless the change answers an error. */
        int confirm(int answer) {
            if (answer >= 0) {
                if (size < MOST_STATES) {
                    size++;
                } else {
                    forgetOldest();
                }
            }
            return answer;
        }

        private void forgetOldest() {
            Page oldest = states[0];
            for (int state = 0; state < MOST_STATES; state++) {
                states[state] = states[state + 1];
            }
            states[MOST_STATES] = oldest;
        }

        boolean goBack(Page page) {
            int latest = size - 1;
            if (latest < 0 || latest >= states.length) {
                return false;
            }
            Page kept = states[latest];
            if (kept == null) {
                return false;
            }
            page.copyFrom(kept);
            size = latest;
            return true;
        }
    }
}
