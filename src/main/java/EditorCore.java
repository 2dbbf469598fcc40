/**
 * The core of a text editor: a text with point, mark and markers, commands that keys of up to three
 * strokes call, a ring of killed texts, undoing that can itself be undone, a keyboard macro, and a
 * frame that shows a part of the text in wrapped rows.
 *
 * Every row is made with the object and used again, so that no later call makes an object.
 */
public final class EditorCore {
    public static final int DONE = 0;
    public static final int REFUSED = -1;
    public static final int NOTHING = -2;
    public static final int FULL = -3;
    public static final int UNBOUND = -4;
    public static final int PREFIX = 1000;

    private static final int FORWARD = 0;
    private static final int BACK = 1;
    private static final int DOWN = 2;
    private static final int UP = 3;
    private static final int LINE_BEGINNING = 4;
    private static final int LINE_END = 5;
    private static final int WORD_FORWARD = 6;
    private static final int WORD_BACK = 7;
    private static final int DELETE_BEHIND = 8;
    private static final int DELETE_BEFORE = 9;
    private static final int KILL_LINE = 10;
    private static final int KILL_REGION = 11;
    private static final int COPY_REGION = 12;
    private static final int YANK = 13;
    private static final int YANK_OLDER = 14;
    private static final int SET_MARK = 15;
    private static final int SWAP_MARK = 16;
    private static final int SWAP_CHARACTERS = 17;
    private static final int MARK_ALL = 18;
    private static final int UNDO = 19;
    private static final int SEARCH = 20;
    private static final int REPLAY = 21;
    private static final int INSERT = 100;

    private static final int NONE = -2;
    private static final int NO_KEY = -1;
    private static final int NO_COMMAND = -1;
    private static final int END_OF_LINE = 10;
    private static final int BLANK = 32;
    private static final int ROOM = 100;
    private static final int LARGEST_ARGUMENT = 9;
    private static final int LARGEST_KEY = 15;
    private static final int JOINED_INSERTS = 7;
    private static final int MARKERS = 4;

    private final Text text;
    private final Kills kills;
    private final History history;
    private final Keys keys;
    private final Events events;
    private final Window window;
    private final Letters draft;
    private int times;
    private int last;
    private int goalColumn;
    private int yanked;
    private int undone;

    public EditorCore() {
        text = new Text();
        kills = new Kills();
        history = new History();
        keys = new Keys();
        events = new Events();
        window = new Window();
        draft = new Letters();
        times = 1;
        last = NONE;
    }

    public int type(int c) {
        if (!isLetter(c) && c != BLANK && c != END_OF_LINE) {
            return REFUSED;
        }
        int answer = insert(c);
        if (answer >= 0) {
            events.note(c, true);
        }
        return answer;
    }

    public int command(int number) {
        if (number < 0 || number > REPLAY) {
            return REFUSED;
        }
        return number == REPLAY ? replay() : perform(number);
    }

    public int argument(int n) {
        if (n < 1 || n > LARGEST_ARGUMENT) {
            return REFUSED;
        }
        times = n;
        return DONE;
    }

    public int bind(int first, int second, int third, int number) {
        boolean keysFit = isKey(first) && isKeyOrNone(second) && isKeyOrNone(third)
                && (second != NO_KEY || third == NO_KEY);
        if (!keysFit || number < NO_COMMAND || number > REPLAY) {
            return REFUSED;
        }
        return keys.assign(Keys.join(first, second, third), number);
    }

    public int press(int key) {
        if (!isKey(key)) {
            return REFUSED;
        }
        int called = keys.stroke(key);
        int answer = called == REPLAY ? replay() : perform(called);
        if (answer >= 0) {
            events.note(key, false);
        }
        return answer;
    }

    public int macro(boolean on) {
        if (on == events.recorded) {
            return REFUSED;
        }
        events.recorded = on;
        if (on) {
            events.size = 0;
            return DONE;
        }
        return events.size;
    }

    public int marker(int i, boolean following) {
        if (i < 0 || i >= MARKERS) {
            return REFUSED;
        }
        text.places[i] = text.point;
        text.following[i] = following;
        return DONE;
    }

    public int frame(int columns, int rows) {
        return window.resize(columns, rows);
    }

    public int character(int i) {
        if (i < 0 || i >= text.body.size) {
            return REFUSED;
        }
        return text.body.codes[i];
    }

    public int markerAt(int i) {
        if (i < 0 || i >= MARKERS) {
            return REFUSED;
        }
        return text.places[i];
    }

    public int killed(int i, int k) {
        if (i < 0 || i >= kills.count || k < 0) {
            return REFUSED;
        }
        Letters kill = kills.rows[i];
        return k < kill.size ? kill.codes[k] : 0;
    }

    public int cell(int row, int column) {
        if (row < 0 || row >= window.rows || column < 0 || column >= window.columns) {
            return REFUSED;
        }
        window.follow(text);
        return window.codeAt(text.body, window.firstRow + row, column);
    }

    public int info(int what) {
        switch (what) {
            case 0:
                return text.body.size;
            case 1:
                return text.point;
            case 2:
                return text.places[Text.MARK];
            case 3:
                return kills.count;
            case 4:
                return history.made;
            case 5:
                return keys.pendingCount();
            case 6:
                return events.size;
            case 7:
                return events.recorded ? 1 : 0;
            case 8:
                return keys.count;
            case 9:
                return window.rowOf(text.body, text.body.size) + 1;
            case 10:
                window.follow(text);
                return window.firstRow;
            case 11:
                return window.rowOf(text.body, text.point);
            case 12:
                return times;
            case 13:
                return last;
            default:
                return REFUSED;
        }
    }

    private static boolean isLetter(int code) {
        return code >= 'a' && code <= 'z';
    }

    private static boolean isKey(int key) {
        return key >= 0 && key <= LARGEST_KEY;
    }

    private static boolean isKeyOrNone(int key) {
        return key == NO_KEY || isKey(key);
    }

    private void finish(int number) {
        last = number;
        times = 1;
    }

    private int insert(int code) {
        draft.clear();
        for (int i = 0; i < times; i++) {
            draft.add(code);
        }
        boolean joined = last == INSERT && history.latestPut() <= JOINED_INSERTS;
        if (history.edit(text, text.point, 0, draft, joined) == FULL) {
            return FULL;
        }
        text.point += draft.size;
        finish(INSERT);
        return DONE;
    }

    private int replay() {
        if (events.recorded || events.size == 0) {
            return NOTHING;
        }
        int rounds = times;
        times = 1;
        int done = 0;
        int answer = DONE;
        for (int round = 0; round < rounds && answer >= 0; round++) {
            for (int i = 0; i < events.size && answer >= 0; i++) {
                int code = events.codes[i];
                answer = events.typed[i] ? insert(code) : perform(keys.stroke(code));
                if (answer >= 0) {
                    done++;
                }
            }
        }
        if (done == 0) {
            finish(REPLAY);
        }
        return done;
    }

    /** A stroke that calls no command is its own answer, so it goes through here unchanged. */
    private int perform(int called) {
        if (called < 0 || called > REPLAY) {
            return called;
        }
        int answer = carryOut(called);
        if (answer >= 0) {
            finish(called);
        }
        return answer;
    }

    private int carryOut(int number) {
        switch (number) {
            case FORWARD:
                return moveTo(Math.min(text.point + times, text.body.size));
            case BACK:
                return moveTo(Math.max(text.point - times, 0));
            case DOWN:
                return moveToGoal(text.beginningBelow(text.point, times));
            case UP:
                return moveToGoal(text.beginningAbove(text.point, times));
            case LINE_BEGINNING:
                return moveTo(text.lineBeginning(text.point));
            case LINE_END:
                return moveTo(text.lineEnd(text.point));
            case WORD_FORWARD:
                return moveTo(text.behindWords(text.point, times));
            case WORD_BACK:
                return moveTo(text.beforeWords(text.point, times));
            case DELETE_BEHIND:
                return takeOut(text.point, Math.min(text.point + times, text.body.size));
            case DELETE_BEFORE:
                return takeOut(Math.max(text.point - times, 0), text.point);
            case KILL_LINE:
                return kill(text.point, lineKillEnd(), last == KILL_LINE || last == KILL_REGION);
            case KILL_REGION:
                return kill(regionBeginning(), regionEnd(), false);
            case COPY_REGION:
                return copy(regionBeginning(), regionEnd());
            case YANK:
                return putKill(0, text.point);
            case YANK_OLDER:
                return putKill(olderKill(), text.places[Text.MARK]);
            case SET_MARK:
                return setMark(text.point);
            case SWAP_MARK:
                return swapMark();
            case SWAP_CHARACTERS:
                return swapCharacters();
            case MARK_ALL:
                text.point = 0;
                return setMark(text.body.size);
            case UNDO:
                return undo();
            case SEARCH:
                return search();
            default:
                // 21 comes this way only from one of the macro's own events.
                return NOTHING;
        }
    }

    private int moveTo(int place) {
        text.point = place;
        return DONE;
    }

    private int moveToGoal(int lineBeginning) {
        if (last != DOWN && last != UP) {
            goalColumn = text.point - text.lineBeginning(text.point);
        }
        return moveTo(Math.min(lineBeginning + goalColumn, text.lineEnd(lineBeginning)));
    }

    private int takeOut(int from, int to) {
        if (from >= to) {
            return NOTHING;
        }
        draft.clear();
        history.edit(text, from, to - from, draft, false);
        return moveTo(from);
    }

    private int lineKillEnd() {
        int end = text.lineEnd(text.point);
        return end > text.point ? end : Math.min(end + 1, text.body.size);
    }

    private int regionBeginning() {
        int mark = text.places[Text.MARK];
        return mark == NONE ? text.point : Math.min(mark, text.point);
    }

    private int regionEnd() {
        return Math.max(text.places[Text.MARK], text.point);
    }

    private int kill(int from, int to, boolean joined) {
        if (from >= to) {
            return NOTHING;
        }
        kills.take(text.body, from, to, joined);
        draft.clear();
        history.edit(text, from, to - from, draft, false);
        return moveTo(from);
    }

    private int copy(int from, int to) {
        if (from >= to) {
            return NOTHING;
        }
        kills.take(text.body, from, to, false);
        return DONE;
    }

    /** Puts a kill in from the place to point; behind a yank, what that put in still lies from mark to point. */
    private int putKill(int number, int place) {
        if (number < 0 || number >= kills.count) {
            return NOTHING;
        }
        Letters kill = kills.rows[number];
        if (history.edit(text, place, text.point - place, kill, false) == FULL) {
            return FULL;
        }
        yanked = number;
        text.point = place + kill.size;
        return setMark(place);
    }

    private int olderKill() {
        if (last != YANK && last != YANK_OLDER) {
            return NONE;
        }
        return yanked + 1 < kills.count ? yanked + 1 : 0;
    }

    private int setMark(int place) {
        text.places[Text.MARK] = place;
        return DONE;
    }

    private int swapMark() {
        int mark = text.places[Text.MARK];
        if (mark == NONE) {
            return NOTHING;
        }
        setMark(text.point);
        return moveTo(mark);
    }

    private int swapCharacters() {
        int point = text.point;
        if (point < 1 || point >= text.body.size) {
            return NOTHING;
        }
        draft.clear();
        draft.add(text.body.codes[point]);
        draft.add(text.body.codes[point - 1]);
        history.edit(text, point - 1, 2, draft, false);
        return moveTo(point + 1);
    }

    private int undo() {
        int number = last == UNDO ? undone - 1 : history.made;
        if (!history.keeps(number)) {
            return NOTHING;
        }
        int slot = History.slotOf(number);
        int place = history.at[slot];
        // The new step may come into the row of the one undone, so that is copied first.
        Letters taken = history.takenOut[slot];
        draft.clear();
        draft.append(taken, 0, taken.size);
        history.edit(text, place, history.putIn[slot], draft, false);
        undone = number;
        return moveTo(place + draft.size);
    }

    private int search() {
        if (kills.count == 0) {
            return NOTHING;
        }
        Letters sought = kills.rows[0];
        for (int place = text.point; place + sought.size <= text.body.size; place++) {
            if (text.body.has(sought, place)) {
                return moveTo(place + sought.size);
            }
        }
        return NOTHING;
    }

    /** A row of at most 100 characters. */
    private static final class Letters {
        final int[] codes;
        int size;

        Letters() {
            codes = new int[ROOM];
        }

        void clear() {
            size = 0;
        }

        void add(int code) {
            if (size < ROOM) {
                codes[size] = code;
                size++;
            }
        }

        void append(Letters from, int beginning, int end) {
            int count = end - beginning;
            if (beginning < 0 || count < 0 || end > from.size || size + count > ROOM) {
                return;
            }
            System.arraycopy(from.codes, beginning, codes, size, count);
            size += count;
        }

        boolean has(Letters part, int place) {
            if (place < 0 || place + part.size > size) {
                return false;
            }
            for (int i = 0; i < part.size; i++) {
                if (codes[place + i] != part.codes[i]) {
                    return false;
                }
            }
            return true;
        }
    }

    /** The text with the places that edits move: the markers and, behind them, the mark. */
    private static final class Text {
        static final int MARK = MARKERS;

        final Letters body;
        final int[] places;
        final boolean[] following;
        int point;

        Text() {
            body = new Letters();
            places = new int[MARKERS + 1];
            following = new boolean[MARKERS + 1];
            for (int i = 0; i < places.length; i++) {
                places[i] = NONE;
            }
        }

        boolean takes(int place, int gone, Letters put) {
            return place >= 0 && gone >= 0 && place + gone <= body.size
                    && body.size - gone + put.size <= ROOM;
        }

        /** Asked only when takes() has allowed the same. */
        void replace(int place, int gone, Letters put) {
            int behind = place + gone;
            int growth = put.size - gone;
            System.arraycopy(body.codes, behind, body.codes, behind + growth, body.size - behind);
            System.arraycopy(put.codes, 0, body.codes, place, put.size);
            body.size += growth;
            for (int i = 0; i < places.length; i++) {
                places[i] = moved(places[i], following[i], place, gone, put.size);
            }
        }

        /** No place at all is below every place, so it stays as it is. */
        private static int moved(int old, boolean follows, int place, int gone, int put) {
            if (old < place || old == place && (gone > 0 || !follows)) {
                return old;
            }
            if (old > place && old < place + gone) {
                return place;
            }
            return old + put - gone;
        }

        int lineBeginning(int place) {
            int beginning = place;
            while (beginning > 0 && body.codes[beginning - 1] != END_OF_LINE) {
                beginning--;
            }
            return beginning;
        }

        int lineEnd(int place) {
            int end = place;
            while (end < body.size && body.codes[end] != END_OF_LINE) {
                end++;
            }
            return end;
        }

        int beginningBelow(int place, int lines) {
            int beginning = lineBeginning(place);
            for (int i = 0; i < lines; i++) {
                int end = lineEnd(beginning);
                beginning = end < body.size ? end + 1 : beginning;
            }
            return beginning;
        }

        int beginningAbove(int place, int lines) {
            int beginning = lineBeginning(place);
            for (int i = 0; i < lines && beginning > 0; i++) {
                beginning = lineBeginning(beginning - 1);
            }
            return beginning;
        }

        int behindWords(int place, int words) {
            int behind = place;
            for (int i = 0; i < words; i++) {
                while (behind < body.size && !isLetter(body.codes[behind])) {
                    behind++;
                }
                while (behind < body.size && isLetter(body.codes[behind])) {
                    behind++;
                }
            }
            return behind;
        }

        int beforeWords(int place, int words) {
            int before = place;
            for (int i = 0; i < words; i++) {
                while (before > 0 && !isLetter(body.codes[before - 1])) {
                    before--;
                }
                while (before > 0 && isLetter(body.codes[before - 1])) {
                    before--;
                }
            }
            return before;
        }
    }

    /** The killed texts, the newest first. */
    private static final class Kills {
        static final int KEPT = 4;

        final Letters[] rows;
        int count;

        Kills() {
            rows = new Letters[KEPT];
            for (int i = 0; i < KEPT; i++) {
                rows[i] = new Letters();
            }
        }

        void take(Letters from, int beginning, int end, boolean joined) {
            if (!joined) {
                makeNewest();
            }
            rows[0].append(from, beginning, end);
        }

        private void makeNewest() {
            Letters oldest = rows[KEPT - 1];
            for (int i = KEPT - 1; i > 0; i--) {
                rows[i] = rows[i - 1];
            }
            oldest.clear();
            rows[0] = oldest;
            count = Math.min(count + 1, KEPT);
        }
    }

    /** The latest steps. Of what a step put in only the length is kept: the text itself has the rest. */
    private static final class History {
        static final int KEPT = 20;

        final int[] at;
        final int[] putIn;
        final Letters[] takenOut;
        int made;

        History() {
            at = new int[KEPT];
            putIn = new int[KEPT];
            takenOut = new Letters[KEPT];
            for (int i = 0; i < KEPT; i++) {
                takenOut[i] = new Letters();
            }
        }

        static int slotOf(int number) {
            return Math.floorMod(number, KEPT);
        }

        boolean keeps(int number) {
            return number >= 1 && number <= made && number > made - KEPT;
        }

        int latestPut() {
            return putIn[slotOf(made)];
        }

        int edit(Text text, int place, int gone, Letters put, boolean joined) {
            if (!text.takes(place, gone, put)) {
                return FULL;
            }
            if (joined) {
                putIn[slotOf(made)] += put.size;
            } else {
                made++;
                int slot = slotOf(made);
                at[slot] = place;
                putIn[slot] = put.size;
                takenOut[slot].clear();
                takenOut[slot].append(text.body, place, place + gone);
            }
            text.replace(place, gone, put);
            return DONE;
        }
    }

    /**
     * The bindings and the pending keys. Keys in a row are one number of three digits to the base
     * 17, a digit being a key's number and 1, or 0 for none: so all that begin with the same keys
     * lie side by side.
     */
    private static final class Keys {
        static final int MOST = 24;
        static final int BASE = 17;
        static final int BEHIND_TWO = BASE;
        static final int BEHIND_ONE = BASE * BASE;
        static final int BEHIND_NONE = BASE * BASE * BASE;

        final int[] bound;
        final int[] called;
        int count;
        int pending;

        Keys() {
            bound = new int[MOST];
            called = new int[MOST];
        }

        static int join(int first, int second, int third) {
            return (first + 1) * BEHIND_ONE + (second + 1) * BEHIND_TWO + third + 1;
        }

        /** How many numbers begin with these keys, their own among them. */
        static int span(int row) {
            if (row == 0) {
                return BEHIND_NONE;
            }
            if (row % BEHIND_ONE == 0) {
                return BEHIND_ONE;
            }
            return row % BEHIND_TWO == 0 ? BEHIND_TWO : 1;
        }

        static boolean isLonger(int row, int beginning) {
            return row > beginning && row < beginning + span(beginning);
        }

        int pendingCount() {
            int span = span(pending);
            if (span == BEHIND_NONE) {
                return 0;
            }
            return span == BEHIND_ONE ? 1 : 2;
        }

        int assign(int row, int number) {
            int going = 0;
            for (int i = 0; i < count; i++) {
                if (isLonger(row, bound[i])) {
                    return FULL;
                }
                if (bound[i] == row || isLonger(bound[i], row)) {
                    going++;
                }
            }
            if (number == NO_COMMAND) {
                drop(row, row + 1);
                return DONE;
            }
            if (count - going >= MOST) {
                return FULL;
            }
            drop(row, row + span(row));
            bound[count] = row;
            called[count] = number;
            count++;
            return DONE;
        }

        private void drop(int from, int to) {
            int kept = 0;
            for (int i = 0; i < count; i++) {
                if (bound[i] < from || bound[i] >= to) {
                    bound[kept] = bound[i];
                    called[kept] = called[i];
                    kept++;
                }
            }
            count = kept;
        }

        int stroke(int key) {
            int row = pending + (key + 1) * (span(pending) / BASE);
            pending = 0;
            for (int i = 0; i < count; i++) {
                if (bound[i] == row) {
                    return called[i];
                }
                if (isLonger(bound[i], row)) {
                    pending = row;
                }
            }
            return pending == 0 ? UNBOUND : PREFIX;
        }
    }

    /** The macro's events: keys, and typed characters. */
    private static final class Events {
        static final int MOST = 12;

        final int[] codes;
        final boolean[] typed;
        int size;
        boolean recorded;

        Events() {
            codes = new int[MOST];
            typed = new boolean[MOST];
        }

        void note(int code, boolean isTyped) {
            if (recorded && size < MOST) {
                codes[size] = code;
                typed[size] = isTyped;
                size++;
            }
        }
    }

    /** The part of the rows that is shown. */
    private static final class Window {
        int columns;
        int rows;
        int firstRow;

        Window() {
            columns = 10;
            rows = 4;
        }

        int resize(int newColumns, int newRows) {
            if (newColumns < 4 || newColumns > 20 || newRows < 2 || newRows > 6) {
                return REFUSED;
            }
            columns = newColumns;
            rows = newRows;
            firstRow = 0;
            return DONE;
        }

        int rowOf(Letters body, int place) {
            int row = 0;
            int column = 0;
            for (int i = 0; i < place && i < body.size; i++) {
                column++;
                if (column == columns || body.codes[i] == END_OF_LINE) {
                    row++;
                    column = 0;
                }
            }
            return row;
        }

        void follow(Text text) {
            int row = rowOf(text.body, text.point);
            firstRow = Math.min(firstRow, row);
            firstRow = Math.max(firstRow, row - rows + 1);
        }

        int codeAt(Letters body, int soughtRow, int soughtColumn) {
            int row = 0;
            int column = 0;
            for (int i = 0; i < body.size; i++) {
                boolean ends = body.codes[i] == END_OF_LINE;
                if (row == soughtRow && column == soughtColumn) {
                    return ends ? 0 : body.codes[i];
                }
                column++;
                if (column == columns || ends) {
                    row++;
                    column = 0;
                }
            }
            return 0;
        }
    }
}
