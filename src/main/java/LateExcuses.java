/**
 * A court for late events: events come to panes by their times, late ones are judged by their
 * excuses, panes tell words and take them back. ../shared/DOC.md says what each call promises.
 */
public final class LateExcuses {
    public static final int INVALID_ARGUMENT = -1000001;
    public static final int NOT_POSSIBLE = -1000002;
    public static final int LIMIT_REACHED = -1000003;
    public static final int NOT_FOUND = -1000004;

    private static final int LAST_ID = 63;
    private static final int LAST_TIME = 1999;
    private static final int LAST_PANE = 1999;
    private static final int LAST_KEY = 5;
    private static final int MOST_AMOUNT = 100;
    private static final int MOST_TICKS = 100;

    private static final int NO_EXCUSE = 0;
    private static final int NET = 1;
    private static final int ILLNESS = 2;
    private static final int FEAST = 3;

    private static final int IN_TIME = 0;
    private static final int EXCUSED = 1;
    private static final int NOT_EXCUSED = 2;
    private static final int CASE_CLOSED = 3;
    private static final int DOUBLE = 4;

    private static final int OPEN = 0;
    private static final int SHUT = 1;
    private static final int REOPENED = 2;
    private static final int CLOSED = 3;

    private static final int SIZE = 0;
    private static final int LAG = 1;
    private static final int GRACE = 2;

    private final Court court;
    private final History history;
    private final Text text;

    public LateExcuses() {
        court = new Court();
        history = new History();
        text = new Text();
    }

    // ---- settings, events

    public int set(int what, int value) {
        if (!isWithin(what, SIZE, GRACE)) {
            return INVALID_ARGUMENT;
        }
        if (!isWithin(value, what == SIZE ? 1 : 0, 100)) {
            return INVALID_ARGUMENT;
        }
        if (what == SIZE && court.hasEvents()) {
            return NOT_POSSIBLE;
        }
        history.keep(court);
        return court.changeSetting(what, value);
    }

    public int event(int id, int time, int key, int amount, int excuse) {
        if (!isEvent(id, time, key, amount) || !isWithin(excuse, NO_EXCUSE, FEAST)) {
            return INVALID_ARGUMENT;
        }
        history.keep(court);
        return court.admit(id, time, key, amount, excuse);
    }

    public int move(int ticks) {
        if (!isWithin(ticks, 1, MOST_TICKS)) {
            return INVALID_ARGUMENT;
        }
        if (!court.canMoveBack()) {
            return NOT_POSSIBLE;
        }
        history.keep(court);
        return court.moveBack(ticks);
    }

    // ---- panes

    public int paneOf(int pane, int what) {
        if (!court.hasTimes(pane) || !isWithin(what, 0, 6)) {
            return INVALID_ARGUMENT;
        }
        if (what == 0) {
            return court.stateOf(pane);
        }
        if (what == Panes.CLOSES_AT && court.stateOf(pane) != REOPENED) {
            return NOT_FOUND;
        }
        return court.panes().read(pane, what);
    }

    public int mean(int pane) {
        if (!court.hasTimes(pane)) {
            return INVALID_ARGUMENT;
        }
        int events = court.panes().read(pane, Panes.EVENTS);
        if (events <= 0) {
            return NOT_FOUND;
        }
        return bitsOf((float) court.panes().read(pane, Panes.SUM) / (float) events);
    }

    public int standing(int pane, int what) {
        if (!court.hasTimes(pane) || !isWithin(what, 0, 1)) {
            return INVALID_ARGUMENT;
        }
        if (!court.panes().hasWord(pane)) {
            return NOT_FOUND;
        }
        // No event comes into a pane whose word stands, so its numbers are those of the word.
        return court.panes().read(pane, what == 0 ? Panes.EVENTS : Panes.SUM);
    }

    public int nextPane(int pane) {
        if (!isWithin(pane, -1, LAST_PANE)) {
            return INVALID_ARGUMENT;
        }
        return court.panes().behind(pane);
    }

    public int wordAt(int index, int what) {
        if (index < 0 || !isWithin(what, 0, 3)) {
            return INVALID_ARGUMENT;
        }
        return court.panes().words().read(index, what);
    }

    // ---- events and excuses

    public int eventOf(int id, int what) {
        if (!isWithin(id, 0, LAST_ID) || !isWithin(what, 0, 5)) {
            return INVALID_ARGUMENT;
        }
        return court.events().read(id, what);
    }

    public int judge(int time, int key, int excuse) {
        boolean valid = isWithin(time, 0, LAST_TIME) && isWithin(key, 0, LAST_KEY)
                && isWithin(excuse, NO_EXCUSE, FEAST);
        return valid ? court.verdict(time, key, excuse) : INVALID_ARGUMENT;
    }

    public int lateness(int time) {
        if (!isWithin(time, 0, LAST_TIME)) {
            return INVALID_ARGUMENT;
        }
        int pane = court.paneAt(time);
        return court.stateOf(pane) == SHUT ? court.lateBy(pane) : NOT_FOUND;
    }

    public int latestExcused(int key, int excuse) {
        if (!isWithin(key, 0, LAST_KEY) || !isWithin(excuse, NET, FEAST)) {
            return INVALID_ARGUMENT;
        }
        return court.latestAcceptable(key, excuse);
    }

    public int filed(int cabinet, int place) {
        if (!isWithin(cabinet, 0, Cabinets.LAST) || !isWithin(place, 0, Cabinets.PLACES - 1)) {
            return INVALID_ARGUMENT;
        }
        return court.cabinets().read(cabinet, place);
    }

    public int trust(int key) {
        if (!isWithin(key, 0, LAST_KEY)) {
            return INVALID_ARGUMENT;
        }
        Events events = court.events();
        int all = events.ofKey(key, IN_TIME, CASE_CLOSED);
        if (all <= 0) {
            return NOT_FOUND;
        }
        float whole = (float) events.ofKey(key, IN_TIME, IN_TIME);
        float halves = (float) events.ofKey(key, EXCUSED, EXCUSED) / 2f;
        return bitsOf((whole + halves) / (float) all);
    }

    public int count(int what) {
        if (isWithin(what, 20, 22)) {
            return court.setting(what - 20);
        }
        switch (what) {
            case 7:
                return court.panes().words().kept();
            case 8:
                return court.panes().words().told();
            case 9:
                return court.panes().words().takenBack();
            case 10:
                return court.panes().closedCases();
            case 12:
                return history.states();
            case 13:
                return text.length();
            default:
                return court.number(what);
        }
    }

    public int undo() {
        if (history.states() == 0) {
            return NOT_POSSIBLE;
        }
        history.restore(court);
        return history.states();
    }

    // ---- texts

    public int type(int character) {
        if (!isWithin(character, 32, 126)) {
            return INVALID_ARGUMENT;
        }
        return text.append((char) character) ? text.length() : LIMIT_REACHED;
    }

    public int clearText() {
        int before = text.length();
        text.empty();
        return before;
    }

    public int fault(int what) {
        if (!isWithin(what, 0, 1)) {
            return INVALID_ARGUMENT;
        }
        if (!text.hasFault()) {
            return NOT_FOUND;
        }
        return what == 0 ? text.faultPlace() : text.faultReason();
    }

    public int play() {
        if (text.hasFault()) {
            return NOT_POSSIBLE;
        }
        history.keep(court);
        int counting = 0;
        int place = 0;
        for (int i = 0; i < Text.MOST_SIGNS && place >= 0 && place < text.length(); i++) {
            place = text.readEvent(place);
            int outcome = court.admit(text.id, text.time, text.key, text.amount, text.excuse);
            if (outcome <= EXCUSED) {
                counting++;
            }
        }
        return counting;
    }

    private static boolean isWithin(int value, int least, int most) {
        return value >= least && value <= most;
    }

    private static boolean isEvent(int id, int time, int key, int amount) {
        return isWithin(id, 0, LAST_ID) && isWithin(time, 0, LAST_TIME)
                && isWithin(key, 0, LAST_KEY) && isWithin(amount, -MOST_AMOUNT, MOST_AMOUNT);
    }

    /**
     * The bits of a float that is 0 or of the size of a mean or trust (1/128 to 100). Doubling
     * alone brings its 24 digits ahead of the point, which loses none of them.
     */
    private static int bitsOf(float value) {
        if (value == 0f) {
            return 0;
        }
        float digits = value < 0f ? -value : value;
        int exponent = 127 + 23;
        for (int i = 0; i < 150 && digits < 8388608f; i++) {
            digits = digits * 2f;
            exponent--;
        }
        int bits = (exponent << 23) + ((int) digits - 8388608);
        return value < 0f ? bits | (1 << 31) : bits;
    }

    /** Everything that an undo restores: settings, watermark, events, panes, words, cabinets. */
    private static final class Court {
        private final Events events = new Events();
        private final Panes panes = new Panes();
        private final Cabinets cabinets = new Cabinets();
        private int size = 10;
        private int lag = 5;
        private int grace = 10;
        private int watermark = -1;
        private int latest = -1;
        private boolean moved;

        Events events() {
            return events;
        }

        Panes panes() {
            return panes;
        }

        Cabinets cabinets() {
            return cabinets;
        }

        void copyFrom(Court other) {
            events.copyFrom(other.events);
            panes.copyFrom(other.panes);
            cabinets.copyFrom(other.cabinets);
            size = other.size;
            lag = other.lag;
            grace = other.grace;
            watermark = other.watermark;
            latest = other.latest;
            moved = other.moved;
        }

        int setting(int what) {
            if (what == SIZE) {
                return size;
            }
            return what == LAG ? lag : grace;
        }

        int changeSetting(int what, int value) {
            int before = setting(what);
            if (what == SIZE) {
                size = value;
            } else if (what == LAG) {
                lag = value;
            } else {
                grace = value;
            }
            return before;
        }

        boolean hasEvents() {
            return events.withOutcome(IN_TIME, CASE_CLOSED) > 0;
        }

        /** The numbers of count() that the court itself knows. */
        int number(int what) {
            switch (what) {
                case 0:
                    return events.withOutcome(IN_TIME, CASE_CLOSED);
                case 1:
                    return events.withOutcome(IN_TIME, EXCUSED);
                case 2:
                    return events.withOutcome(EXCUSED, EXCUSED);
                case 3:
                    return events.withOutcome(NOT_EXCUSED, CASE_CLOSED);
                case 4:
                    return events.doubles();
                case 5:
                    return watermark;
                case 6:
                    return latest;
                case 11:
                    return moved ? 1 : 0;
                default:
                    return INVALID_ARGUMENT;
            }
        }

        int paneAt(int time) {
            return size > 0 ? time / size : 0;
        }

        private int endOf(int pane) {
            return (pane + 1) * size;
        }

        boolean hasTimes(int pane) {
            return isWithin(pane, 0, LAST_PANE) && pane * size <= LAST_TIME;
        }

        int stateOf(int pane) {
            int ownState = panes.read(pane, Panes.CASE);
            if (ownState != OPEN) {
                return ownState;
            }
            return watermark < endOf(pane) ? OPEN : SHUT;
        }

        int lateBy(int pane) {
            return watermark - endOf(pane) + 1;
        }

        int verdict(int time, int key, int excuse) {
            int state = stateOf(paneAt(time));
            if (state == CLOSED) {
                return CASE_CLOSED;
            }
            if (state != SHUT) {
                return IN_TIME;
            }
            boolean accepted = isAcceptable(time, key, excuse) && cabinets.hasPlaceFor(excuse);
            return accepted ? EXCUSED : NOT_EXCUSED;
        }

        /** If an excuse for a late event would be accepted by its kind, whatever is full. */
        private boolean isAcceptable(int time, int key, int excuse) {
            int late = lateBy(paneAt(time));
            switch (excuse) {
                case NET:
                    return late <= 10;
                case ILLNESS:
                    return late <= 40 && !events.hadIllness(key);
                case FEAST:
                    return time % 7 >= 5;
                default:
                    return false;
            }
        }

        int latestAcceptable(int key, int excuse) {
            // Later panes end beyond the watermark, so none of them is shut.
            for (int pane = paneAt(watermark) - 1; pane >= 0; pane--) {
                if (stateOf(pane) == SHUT) {
                    int time = latestIn(pane, key, excuse);
                    // All earlier panes are later still, which only a feast does not mind.
                    if (time >= 0 || excuse != FEAST) {
                        return time;
                    }
                }
            }
            return NOT_FOUND;
        }

        private int latestIn(int pane, int key, int excuse) {
            // Seven times have all the remainders that a feast looks at.
            int first = Math.max(pane * size, endOf(pane) - 7);
            for (int time = endOf(pane) - 1; time >= first; time--) {
                if (isAcceptable(time, key, excuse)) {
                    return time;
                }
            }
            return NOT_FOUND;
        }

        int admit(int id, int time, int key, int amount, int excuse) {
            if (events.hasCome(id)) {
                events.addDouble();
                return DOUBLE;
            }
            int outcome = verdict(time, key, excuse);
            int pane = paneAt(time);
            events.enter(id, time, key, amount, excuse);
            events.conclude(id, outcome, pane);
            if (outcome == EXCUSED) {
                cabinets.file(excuse, id);
                panes.reopen(pane, watermark + grace + 1);
            }
            if (outcome <= EXCUSED) {
                panes.add(pane, key, amount);
            }
            if (time > latest) {
                latest = time;
                raiseWatermark(time - lag);
            }
            return outcome;
        }

        private void raiseWatermark(int mark) {
            if (mark > watermark) {
                int lastShutBefore = paneAt(Math.max(0, watermark)) - 1;
                watermark = mark;
                panes.shutAndClose(lastShutBefore, paneAt(mark) - 1, mark);
            }
        }

        boolean canMoveBack() {
            return !moved && watermark != -1;
        }

        int moveBack(int ticks) {
            int mark = Math.max(-1, watermark - ticks);
            int opened = 0;
            int behindShut = paneAt(watermark);
            for (int pane = paneAt(Math.max(0, mark)); pane < behindShut; pane++) {
                if (stateOf(pane) == SHUT) {
                    panes.takeBackWord(pane);
                    opened++;
                }
            }
            watermark = mark;
            moved = true;
            return opened;
        }
    }

    /** The events that were not double, by their ids, and how many were. */
    private static final class Events {
        // The columns 0 to 5 are numbered as the face's eventOf numbers what it tells.
        private static final int TIME = 0;
        private static final int KEY = 1;
        private static final int AMOUNT = 2;
        private static final int EXCUSE = 3;
        private static final int OUTCOME = 4;
        private static final int PANE = 5;
        private static final int CAME = 6;

        private final Table rows = new Table(LAST_ID + 1, 7);
        private int doubles;

        void copyFrom(Events other) {
            rows.copyFrom(other.rows);
            doubles = other.doubles;
        }

        boolean hasCome(int id) {
            return rows.get(id, CAME) == 1;
        }

        int read(int id, int what) {
            return hasCome(id) ? rows.get(id, what) : NOT_FOUND;
        }

        void enter(int id, int time, int key, int amount, int excuse) {
            rows.put(id, TIME, time);
            rows.put(id, KEY, key);
            rows.put(id, AMOUNT, amount);
            rows.put(id, EXCUSE, excuse);
            rows.put(id, CAME, 1);
        }

        void conclude(int id, int outcome, int pane) {
            rows.put(id, OUTCOME, outcome);
            rows.put(id, PANE, pane);
        }

        void addDouble() {
            doubles++;
        }

        int doubles() {
            return doubles;
        }

        int withOutcome(int least, int most) {
            int found = 0;
            for (int id = 0; id <= LAST_ID; id++) {
                if (hasOutcome(id, least, most)) {
                    found++;
                }
            }
            return found;
        }

        int ofKey(int key, int least, int most) {
            int found = 0;
            for (int id = 0; id <= LAST_ID; id++) {
                if (rows.get(id, KEY) == key && hasOutcome(id, least, most)) {
                    found++;
                }
            }
            return found;
        }

        boolean hadIllness(int key) {
            for (int id = 0; id <= LAST_ID; id++) {
                if (rows.get(id, KEY) == key && rows.get(id, EXCUSE) == ILLNESS
                        && hasOutcome(id, EXCUSED, EXCUSED)) {
                    return true;
                }
            }
            return false;
        }

        private boolean hasOutcome(int id, int least, int most) {
            int outcome = rows.get(id, OUTCOME);
            return rows.get(id, CAME) == 1 && outcome >= least && outcome <= most;
        }
    }

    /**
     * The panes in which events count, by their numbers, and the words. All others have only the
     * state that the watermark gives them; they need no row, as 64 events come at most.
     */
    private static final class Panes {
        // The columns 1 to 6 are numbered as the face's paneOf numbers what it tells.
        static final int CASE = 0;
        static final int EVENTS = 1;
        static final int SUM = 2;
        static final int KEYS = 3;
        static final int CLOSES_AT = 4;
        static final int TOLD = 5;
        static final int TAKEN_BACK = 6;
        private static final int NUMBER = 7;
        private static final int MOST = LAST_ID + 1;

        private final Table rows = new Table(MOST, 8);
        private final Words words = new Words();
        private int used;

        Words words() {
            return words;
        }

        void copyFrom(Panes other) {
            rows.copyFrom(other.rows);
            words.copyFrom(other.words);
            used = other.used;
        }

        private int rowOf(int pane) {
            for (int row = 0; row < used; row++) {
                if (rows.get(row, NUMBER) == pane) {
                    return row;
                }
            }
            return -1;
        }

        private int rowBehind(int pane) {
            int row = 0;
            while (row < used && rows.get(row, NUMBER) <= pane) {
                row++;
            }
            return row;
        }

        private int rowMadeFor(int pane) {
            int row = rowOf(pane);
            if (row < 0 && used < MOST) {
                row = rowBehind(pane);
                rows.openRow(row);
                rows.put(row, NUMBER, pane);
                used++;
            }
            return row;
        }

        /** 0 for a pane without a row. */
        int read(int pane, int column) {
            return rows.get(rowOf(pane), column);
        }

        int behind(int pane) {
            int row = rowBehind(pane);
            return row < used ? rows.get(row, NUMBER) : NOT_FOUND;
        }

        boolean hasWord(int pane) {
            return isStanding(rowOf(pane));
        }

        private boolean isStanding(int row) {
            return rows.get(row, TOLD) > rows.get(row, TAKEN_BACK);
        }

        int closedCases() {
            int found = 0;
            for (int row = 0; row < used; row++) {
                if (rows.get(row, CASE) == CLOSED) {
                    found++;
                }
            }
            return found;
        }

        void add(int pane, int key, int amount) {
            int row = rowMadeFor(pane);
            rows.put(row, EVENTS, rows.get(row, EVENTS) + 1);
            rows.put(row, SUM, rows.get(row, SUM) + amount);
            rows.put(row, KEYS, rows.get(row, KEYS) | (1 << key));
        }

        void reopen(int pane, int closesAt) {
            int row = rowMadeFor(pane);
            takeBack(row);
            rows.put(row, CASE, REOPENED);
            rows.put(row, CLOSES_AT, closesAt);
        }

        /** What a watermark does that became greater; panes up to lastShut end by it. */
        void shutAndClose(int lastShutBefore, int lastShut, int watermark) {
            for (int row = 0; row < used; row++) {
                int ownState = rows.get(row, CASE);
                if (ownState == OPEN) {
                    if (isWithin(rows.get(row, NUMBER), lastShutBefore + 1, lastShut)) {
                        tellWord(row);
                    }
                } else if (ownState == REOPENED && rows.get(row, CLOSES_AT) <= watermark) {
                    rows.put(row, CASE, CLOSED);
                    tellWord(row);
                }
            }
        }

        private void tellWord(int row) {
            rows.put(row, TOLD, rows.get(row, TOLD) + 1);
            int pane = rows.get(row, NUMBER);
            words.add(Words.TOLD, pane, rows.get(row, EVENTS), rows.get(row, SUM));
        }

        void takeBackWord(int pane) {
            takeBack(rowOf(pane));
        }

        private void takeBack(int row) {
            if (isStanding(row)) {
                rows.put(row, TAKEN_BACK, rows.get(row, TAKEN_BACK) + 1);
                int pane = rows.get(row, NUMBER);
                words.add(Words.TAKEN_BACK, pane, rows.get(row, EVENTS), rows.get(row, SUM));
            }
        }
    }

    /** The latest words, the oldest first, and how many there were of each kind. */
    private static final class Words {
        static final int TOLD = 0;
        static final int TAKEN_BACK = 1;
        private static final int MOST = 40;

        private final Table rows = new Table(MOST, 4);
        private int kept;
        private int told;
        private int takenBack;

        void copyFrom(Words other) {
            rows.copyFrom(other.rows);
            kept = other.kept;
            told = other.told;
            takenBack = other.takenBack;
        }

        int kept() {
            return kept;
        }

        int told() {
            return told;
        }

        int takenBack() {
            return takenBack;
        }

        int read(int index, int what) {
            return index < kept ? rows.get(index, what) : NOT_FOUND;
        }

        void add(int kind, int pane, int events, int sum) {
            if (kept == MOST) {
                rows.dropFirstRow();
                kept--;
            }
            rows.put(kept, 0, kind);
            rows.put(kept, 1, pane);
            rows.put(kept, 2, events);
            rows.put(kept, 3, sum);
            kept++;
            if (kind == TOLD) {
                told++;
            } else {
                takenBack++;
            }
        }
    }

    /** The accepted excuses: cabinet 0 for the net, 1 for illness, 2 for all kinds. */
    private static final class Cabinets {
        static final int LAST = 2;
        static final int PLACES = 4;
        // The column behind the places tells how many of them are taken.
        private static final int FILED = PLACES;

        private final Table rows = new Table(LAST + 1, PLACES + 1);

        void copyFrom(Cabinets other) {
            rows.copyFrom(other.rows);
        }

        int read(int cabinet, int place) {
            return place < rows.get(cabinet, FILED) ? rows.get(cabinet, place) : NOT_FOUND;
        }

        boolean hasPlaceFor(int excuse) {
            return !isFull(cabinetFor(excuse));
        }

        void file(int excuse, int id) {
            int cabinet = cabinetFor(excuse);
            if (!isFull(cabinet)) {
                int place = rows.get(cabinet, FILED);
                rows.put(cabinet, place, id);
                rows.put(cabinet, FILED, place + 1);
            }
        }

        private int cabinetFor(int excuse) {
            if (excuse == NET && !isFull(0)) {
                return 0;
            }
            return excuse == ILLNESS && !isFull(1) ? 1 : LAST;
        }

        private boolean isFull(int cabinet) {
            return rows.get(cabinet, FILED) >= PLACES;
        }
    }

    /** The latest states of the court before its changes; a dropped one's room is used again. */
    private static final class History {
        private static final int MOST = 4;

        private final Court[] past = new Court[MOST];
        private int oldest;
        private int states;

        int states() {
            return states;
        }

        void keep(Court court) {
            if (states == MOST) {
                oldest = (oldest + 1) % MOST;
                states--;
            }
            int place = (oldest + states) % MOST;
            if (place >= 0 && place < past.length) {
                Court room = past[place];
                if (room == null) {
                    room = new Court();
                    past[place] = room;
                }
                room.copyFrom(court);
                states++;
            }
        }

        void restore(Court court) {
            int place = (oldest + states - 1) % MOST;
            if (states > 0 && place >= 0 && place < past.length) {
                Court state = past[place];
                if (state != null) {
                    court.copyFrom(state);
                }
                states--;
            }
        }
    }

    /** The text, its fault, and the numbers of the event that was read last from it. */
    private static final class Text {
        static final int MOST_SIGNS = 80;
        private static final int MOST_DIGITS = 4;
        private static final int BAD_FORM = 1;
        private static final int BAD_NUMBER = 2;

        private final char[] signs = new char[MOST_SIGNS];
        private int length;
        private int place;
        private int number;
        private int id;
        private int time;
        private int key;
        private int amount;
        private int excuse;
        private int faultPlace;
        private int faultReason;

        int length() {
            return length;
        }

        boolean append(char sign) {
            if (length < 0 || length >= signs.length) {
                return false;
            }
            signs[length] = sign;
            length++;
            return true;
        }

        void empty() {
            length = 0;
        }

        int faultPlace() {
            return faultPlace;
        }

        int faultReason() {
            return faultReason;
        }

        /** Looks for the fault of the text; faultPlace and faultReason tell of it then. */
        boolean hasFault() {
            int start = 0;
            for (int i = 0; i < MOST_SIGNS && start < length; i++) {
                int next = readEvent(start);
                if (next < 0 || !isEvent(id, time, key, amount)) {
                    faultPlace = start;
                    faultReason = next < 0 ? BAD_FORM : BAD_NUMBER;
                    return true;
                }
                start = next;
            }
            return false;
        }

        /** Returns the place behind the event that begins at start, or -1 if there is none. */
        int readEvent(int start) {
            place = start;
            boolean formed = readNumber();
            id = number;
            formed = formed && readSign(',') && readNumber();
            time = number;
            formed = formed && readSign(',') && readNumber();
            key = number;
            formed = formed && readSign(',');
            boolean negative = readSign('-');
            formed = formed && readNumber();
            amount = negative ? -number : number;
            excuse = readExcuse();
            return formed && readSign(';') ? place : -1;
        }

        private boolean readNumber() {
            number = 0;
            int digits = 0;
            while (digits < MOST_DIGITS && isWithin(signHere(), '0', '9')) {
                number = number * 10 + signHere() - '0';
                digits++;
                place++;
            }
            return digits > 0;
        }

        private boolean readSign(char sign) {
            if (signHere() != sign) {
                return false;
            }
            place++;
            return true;
        }

        private int readExcuse() {
            if (readSign('n')) {
                return NET;
            }
            if (readSign('i')) {
                return ILLNESS;
            }
            return readSign('f') ? FEAST : NO_EXCUSE;
        }

        /** 0, which is no sign of a text, at its end. */
        private char signHere() {
            return place >= 0 && place < length && place < signs.length ? signs[place] : 0;
        }
    }

    /** Numbers in rows and columns; outside of them it reads 0 and writes nothing. */
    private static final class Table {
        private final int rows;
        private final int columns;
        private final int[] cells;

        Table(int rows, int columns) {
            this.rows = Math.max(0, rows);
            this.columns = Math.max(0, columns);
            cells = new int[Math.max(0, this.rows * this.columns)];
        }

        void copyFrom(Table other) {
            if (other.cells.length == cells.length) {
                System.arraycopy(other.cells, 0, cells, 0, cells.length);
            }
        }

        int get(int row, int column) {
            if (row < 0 || row >= rows || column < 0 || column >= columns) {
                return 0;
            }
            int cell = row * columns + column;
            return cell >= 0 && cell < cells.length ? cells[cell] : 0;
        }

        void put(int row, int column, int value) {
            if (row < 0 || row >= rows || column < 0 || column >= columns) {
                return;
            }
            int cell = row * columns + column;
            if (cell >= 0 && cell < cells.length) {
                cells[cell] = value;
            }
        }

        /** Makes room for a row of zeros; the rows from there on go one down, the last is lost. */
        void openRow(int row) {
            int start = row * columns;
            int next = start + columns;
            if (row >= 0 && row < rows && start >= 0 && next >= start && next <= cells.length) {
                System.arraycopy(cells, start, cells, next, cells.length - next);
                for (int column = 0; column < columns; column++) {
                    put(row, column, 0);
                }
            }
        }

        void dropFirstRow() {
            if (columns <= cells.length) {
                System.arraycopy(cells, columns, cells, 0, cells.length - columns);
            }
        }
    }
}
