import java.util.ArrayList;
import java.util.List;
import java.util.Random;
import java.util.regex.Matcher;
import java.util.regex.Pattern;

/**
 * Plays many runs of calls, always the same ones, on LateExcuses and on a second, slow program of
 * the same document, and prints every call that the two answer differently.
 */
public final class ModelTest {
    private static final int RUNS = 3000;
    /** The document promises nothing of later calls. */
    private static final int MOST_CALLS = 512;
    private static int wrong = 0;

    public static void main(String[] args) {
        for (int run = 0; run < RUNS; run++) {
            new Player(run).play();
        }
        System.out.println(wrong == 0 ? RUNS + " runs are as the model" : wrong + " answers are not");
        if (wrong != 0) {
            System.exit(1);
        }
    }

    /** One object, one model, and the calls that were made on both. */
    private static final class Player {
        private final int run;
        private final Random random;
        private final LateExcuses court = new LateExcuses();
        private final Model model = new Model();
        private final int style;
        private boolean differs;
        private int calls;
        private int now;

        Player(int run) {
            this.run = run;
            random = new Random(7919L * run + 11);
            style = run % 6;
        }

        void play() {
            begin();
            while (calls < MOST_CALLS && !differs) {
                step();
            }
        }

        private void begin() {
            now = random.nextInt(60);
            if (style < 5) {
                int[] sizes = {1, 2, 5, 7, 30};
                set(0, sizes[style]);
            }
            if (random.nextInt(2) == 0) {
                set(1, random.nextInt(style == 0 ? 3 : 20));
                set(2, random.nextInt(30));
            }
        }

        private void step() {
            int dice = random.nextInt(100);
            if (dice < 30) {
                event();
            } else if (dice < 33) {
                due("undo()", court.undo(), model.undo());
            } else if (dice < 35) {
                set(random.nextInt(5) - 1, random.nextInt(110) - 4);
            } else if (dice < 37) {
                int ticks = random.nextInt(8) == 0 ? random.nextInt(104) - 1 : 1 + random.nextInt(25);
                due("move(" + ticks + ")", court.move(ticks), model.move(ticks));
            } else if (dice < 38) {
                text();
            } else if (dice < 68) {
                askOfPane();
            } else {
                askOfEvents();
            }
        }

        private void set(int what, int value) {
            due("set(" + what + ", " + value + ")", court.set(what, value), model.set(what, value));
        }

        /** The time of an event: often a later one than ever before. */
        private int time() {
            if (random.nextInt(10) < 4) {
                now += random.nextInt(random.nextInt(8) == 0 ? 60 : 9);
                return Math.min(now, random.nextInt(50) == 0 ? 2005 : 1999);
            }
            return timeAround();
        }

        private int timeAround() {
            int back = random.nextInt(3) > 0 ? random.nextInt(16) - 1 : random.nextInt(90);
            return Math.max(random.nextInt(60) == 0 ? -1 : 0, Math.min(1999, now) - back);
        }

        private void event() {
            int id = random.nextInt(40) == 0 ? random.nextInt(70) - 3 : freshId();
            int time = time();
            int key = random.nextInt(60) == 0 ? random.nextInt(10) - 2 : random.nextInt(6);
            int amount = random.nextInt(60) == 0 ? random.nextInt(220) - 110 : random.nextInt(201) - 100;
            int excuse = random.nextInt(60) == 0 ? random.nextInt(7) - 2 : random.nextInt(4);
            due("event(" + id + ", " + time + ", " + key + ", " + amount + ", " + excuse + ")",
                    court.event(id, time, key, amount, excuse), model.event(id, time, key, amount, excuse));
        }

        private int freshId() {
            int id = random.nextInt(64);
            for (int i = 0; i < 64; i++) {
                if (model.now.find((id + i) % 64) == null) {
                    return (id + i) % 64;
                }
            }
            return id;
        }

        private void text() {
            if (random.nextInt(4) != 0) {
                due("clearText()", court.clearText(), model.clearText());
            }
            int events = random.nextInt(random.nextInt(4) == 0 ? 7 : 4);
            String[] ends = {";", "n;", "i;", "f;", ";", ";", "x;", "", "nn;"};
            for (int i = 0; i < events; i++) {
                boolean odd = random.nextInt(12) == 0;
                String id = padded(odd ? random.nextInt(70) : freshId());
                String key = padded(odd ? random.nextInt(8) : random.nextInt(6));
                String amount = (random.nextBoolean() ? "-" : "") + padded(random.nextInt(odd ? 120 : 101));
                String end = ends[random.nextInt(odd ? ends.length : 6)];
                type(id + "," + padded(Math.max(0, time())) + "," + key + "," + amount + end);
            }
            if (random.nextInt(10) == 0) {
                type("" + (char) (30 + random.nextInt(100)));
            }
            due("fault(0)", court.fault(0), model.fault(0));
            due("fault(1)", court.fault(1), model.fault(1));
            due("play()", court.play(), model.play());
        }

        private String padded(int number) {
            return random.nextInt(8) == 0 ? "0" + number : "" + number;
        }

        private void type(String signs) {
            for (int i = 0; i < signs.length(); i++) {
                int sign = signs.charAt(i);
                due("type(" + sign + ")", court.type(sign), model.type(sign));
            }
        }

        private int pane() {
            int far = random.nextInt(30);
            return far == 0 ? random.nextInt(2006) - 3 : Math.max(0, timeAround()) / model.now.settings[0];
        }

        private void askOfPane() {
            int pane = pane();
            int dice = random.nextInt(10);
            if (dice < 5) {
                int what = random.nextInt(9) - 1;
                due("paneOf(" + pane + ", " + what + ")", court.paneOf(pane, what), model.paneOf(pane, what));
            } else if (dice < 6) {
                due("mean(" + pane + ")", court.mean(pane), model.mean(pane));
            } else if (dice < 7) {
                int what = random.nextInt(random.nextInt(9) == 0 ? 4 : 2) - (random.nextInt(9) == 0 ? 1 : 0);
                due("standing(" + pane + ", " + what + ")", court.standing(pane, what), model.standing(pane, what));
            } else if (dice < 8) {
                int before = random.nextInt(9) == 0 ? random.nextInt(4) - 3 : pane;
                due("nextPane(" + before + ")", court.nextPane(before), model.nextPane(before));
            } else {
                int index = random.nextInt(random.nextInt(5) == 0 ? 43 : model.count(7) + 2) - 1;
                int what = random.nextInt(9) == 0 ? random.nextInt(6) - 1 : random.nextInt(4);
                due("wordAt(" + index + ", " + what + ")", court.wordAt(index, what), model.wordAt(index, what));
            }
        }

        private void askOfEvents() {
            int dice = random.nextInt(16);
            int time = timeAround();
            int key = random.nextInt(10) == 0 ? random.nextInt(8) - 1 : random.nextInt(6);
            int excuse = random.nextInt(10) == 0 ? random.nextInt(6) - 1 : random.nextInt(4);
            if (dice < 2) {
                int id = random.nextInt(68) - 2;
                int what = random.nextInt(8) - 1;
                due("eventOf(" + id + ", " + what + ")", court.eventOf(id, what), model.eventOf(id, what));
            } else if (dice < 4) {
                due("judge(" + time + ", " + key + ", " + excuse + ")",
                        court.judge(time, key, excuse), model.judge(time, key, excuse));
            } else if (dice < 5) {
                due("lateness(" + time + ")", court.lateness(time), model.lateness(time));
            } else if (dice < 7) {
                due("latestExcused(" + key + ", " + excuse + ")",
                        court.latestExcused(key, excuse), model.latestExcused(key, excuse));
            } else if (dice < 9) {
                int cabinet = random.nextInt(5) - 1;
                int place = random.nextInt(6) - 1;
                due("filed(" + cabinet + ", " + place + ")",
                        court.filed(cabinet, place), model.filed(cabinet, place));
            } else if (dice < 11) {
                due("trust(" + key + ")", court.trust(key), model.trust(key));
            } else {
                int what = random.nextInt(26) - 1;
                due("count(" + what + ")", court.count(what), model.count(what));
            }
        }

        private void due(String call, int got, int want) {
            calls++;
            if (got != want && calls <= MOST_CALLS) {
                wrong++;
                differs = true;
                if (wrong < 40) {
                    System.out.println("run " + run + ": " + call + " answered " + got + ", the model " + want);
                }
            }
        }
    }

    /** What an undo restores, held as plainly as can be: a list of events and all words ever. */
    private static final class State {
        final int[] settings = {10, 5, 10};
        /** Each: id, time, key, amount, excuse, what event() returned. */
        final List<int[]> events = new ArrayList<>();
        /** Each: kind, pane, events, sum. */
        final List<int[]> words = new ArrayList<>();
        final List<List<Integer>> cabinets = new ArrayList<>();
        final int[] own = new int[2001];
        final int[] closesAt = new int[2001];
        int doubles = 0;
        int watermark = -1;
        int latest = -1;
        boolean moved = false;

        State() {
            for (int i = 0; i < 3; i++) {
                cabinets.add(new ArrayList<>());
            }
        }

        State(State other) {
            System.arraycopy(other.settings, 0, settings, 0, 3);
            events.addAll(other.events);
            words.addAll(other.words);
            for (List<Integer> cabinet : other.cabinets) {
                cabinets.add(new ArrayList<>(cabinet));
            }
            System.arraycopy(other.own, 0, own, 0, own.length);
            System.arraycopy(other.closesAt, 0, closesAt, 0, closesAt.length);
            doubles = other.doubles;
            watermark = other.watermark;
            latest = other.latest;
            moved = other.moved;
        }

        int[] find(int id) {
            for (int[] event : events) {
                if (event[0] == id) {
                    return event;
                }
            }
            return null;
        }

        int state(int pane, int mark) {
            if (own[pane] != 0) {
                return own[pane];
            }
            return mark < (pane + 1) * settings[0] ? 0 : 1;
        }

        List<int[]> countingIn(int pane) {
            List<int[]> found = new ArrayList<>();
            for (int[] event : events) {
                if (event[5] < 2 && event[1] / settings[0] == pane) {
                    found.add(event);
                }
            }
            return found;
        }

        int sumOf(int pane) {
            return countingIn(pane).stream().mapToInt(event -> event[3]).sum();
        }

        int[] standing(int pane) {
            int[] last = null;
            for (int[] word : words) {
                if (word[1] == pane) {
                    last = word;
                }
            }
            return last != null && last[0] == 0 ? last : null;
        }

        void tell(int pane) {
            if (!countingIn(pane).isEmpty()) {
                words.add(new int[] {0, pane, countingIn(pane).size(), sumOf(pane)});
            }
        }

        void takeBack(int pane) {
            int[] word = standing(pane);
            if (word != null) {
                words.add(new int[] {1, pane, word[2], word[3]});
            }
        }

        int lateBy(int time) {
            return watermark - (time / settings[0] + 1) * settings[0] + 1;
        }

        boolean byKind(int time, int key, int excuse) {
            boolean ill = events.stream().anyMatch(e -> e[2] == key && e[4] == 2 && e[5] == 1);
            return excuse == 1 && lateBy(time) <= 10
                    || excuse == 2 && lateBy(time) <= 40 && !ill
                    || excuse == 3 && (time % 7 == 5 || time % 7 == 6);
        }

        int cabinetFor(int excuse) {
            if (excuse < 3 && excuse > 0 && cabinets.get(excuse - 1).size() < 4) {
                return excuse - 1;
            }
            return cabinets.get(2).size() < 4 ? 2 : -1;
        }

        int judge(int time, int key, int excuse) {
            switch (state(time / settings[0], watermark)) {
                case 3:
                    return 3;
                case 1:
                    return byKind(time, key, excuse) && cabinetFor(excuse) >= 0 ? 1 : 2;
                default:
                    return 0;
            }
        }

        int come(int id, int time, int key, int amount, int excuse) {
            if (find(id) != null) {
                doubles++;
                return 4;
            }
            int outcome = judge(time, key, excuse);
            int pane = time / settings[0];
            if (outcome == 1) {
                cabinets.get(cabinetFor(excuse)).add(id);
                takeBack(pane);
                own[pane] = 2;
                closesAt[pane] = watermark + settings[2] + 1;
            }
            events.add(new int[] {id, time, key, amount, excuse, outcome});
            if (time > latest) {
                latest = time;
                if (latest - settings[1] > watermark) {
                    raise(latest - settings[1]);
                }
            }
            return outcome;
        }

        void raise(int mark) {
            int before = watermark;
            watermark = mark;
            for (int pane = 0; pane < 2000; pane++) {
                if (own[pane] == 2 && closesAt[pane] <= mark) {
                    own[pane] = 3;
                    tell(pane);
                } else if (state(pane, before) == 0 && state(pane, mark) == 1) {
                    tell(pane);
                }
            }
        }
    }

    /** The document once more, with the history and the text. */
    private static final class Model {
        private static final Pattern EVENT =
                Pattern.compile("([0-9]{1,4}),([0-9]{1,4}),([0-9]{1,4}),(-?[0-9]{1,4})([nif]?);");
        private static final int BAD = -1000001;
        private static final int IMPOSSIBLE = -1000002;
        private static final int FULL = -1000003;
        private static final int NONE = -1000004;

        private final List<State> history = new ArrayList<>();
        private State now = new State();
        private String text = "";

        private void change() {
            history.add(new State(now));
            if (history.size() > 4) {
                history.remove(0);
            }
        }

        private static boolean in(int value, int least, int most) {
            return least <= value && value <= most;
        }

        int set(int what, int value) {
            if (!in(what, 0, 2) || !in(value, what == 0 ? 1 : 0, 100)) {
                return BAD;
            }
            if (what == 0 && !now.events.isEmpty()) {
                return IMPOSSIBLE;
            }
            change();
            int before = now.settings[what];
            now.settings[what] = value;
            return before;
        }

        int event(int id, int time, int key, int amount, int excuse) {
            if (!in(id, 0, 63) || !in(time, 0, 1999) || !in(key, 0, 5) || !in(amount, -100, 100)
                    || !in(excuse, 0, 3)) {
                return BAD;
            }
            change();
            return now.come(id, time, key, amount, excuse);
        }

        int move(int ticks) {
            if (!in(ticks, 1, 100)) {
                return BAD;
            }
            if (now.moved || now.watermark == -1) {
                return IMPOSSIBLE;
            }
            change();
            int mark = Math.max(-1, now.watermark - ticks);
            int opened = 0;
            for (int pane = 0; pane < 2000; pane++) {
                if (now.state(pane, now.watermark) == 1 && now.state(pane, mark) == 0) {
                    opened++;
                    now.takeBack(pane);
                }
            }
            now.watermark = mark;
            now.moved = true;
            return opened;
        }

        private boolean badPane(int pane) {
            return !in(pane, 0, 1999) || pane * now.settings[0] > 1999;
        }

        int paneOf(int pane, int what) {
            if (badPane(pane) || !in(what, 0, 6)) {
                return BAD;
            }
            switch (what) {
                case 0:
                    return now.state(pane, now.watermark);
                case 1:
                    return now.countingIn(pane).size();
                case 2:
                    return now.sumOf(pane);
                case 3:
                    int keys = 0;
                    for (int[] event : now.countingIn(pane)) {
                        keys |= 1 << event[2];
                    }
                    return keys;
                case 4:
                    return now.own[pane] == 2 ? now.closesAt[pane] : NONE;
                default:
                    return (int) now.words.stream().filter(w -> w[1] == pane && w[0] == what - 5).count();
            }
        }

        int mean(int pane) {
            if (badPane(pane)) {
                return BAD;
            }
            int events = now.countingIn(pane).size();
            return events == 0 ? NONE : Float.floatToIntBits((float) now.sumOf(pane) / events);
        }

        int standing(int pane, int what) {
            if (badPane(pane) || !in(what, 0, 1)) {
                return BAD;
            }
            int[] word = now.standing(pane);
            return word == null ? NONE : word[2 + what];
        }

        int nextPane(int pane) {
            if (!in(pane, -1, 1999)) {
                return BAD;
            }
            int next = Integer.MAX_VALUE;
            for (int[] event : now.events) {
                int its = event[1] / now.settings[0];
                if (event[5] < 2 && its > pane) {
                    next = Math.min(next, its);
                }
            }
            return next == Integer.MAX_VALUE ? NONE : next;
        }

        int wordAt(int index, int what) {
            if (index < 0 || !in(what, 0, 3)) {
                return BAD;
            }
            int gone = Math.max(0, now.words.size() - 40);
            return index >= now.words.size() - gone ? NONE : now.words.get(gone + index)[what];
        }

        int eventOf(int id, int what) {
            if (!in(id, 0, 63) || !in(what, 0, 5)) {
                return BAD;
            }
            int[] event = now.find(id);
            if (event == null) {
                return NONE;
            }
            return what == 5 ? event[1] / now.settings[0] : event[1 + what];
        }

        int judge(int time, int key, int excuse) {
            boolean good = in(time, 0, 1999) && in(key, 0, 5) && in(excuse, 0, 3);
            return good ? now.judge(time, key, excuse) : BAD;
        }

        int lateness(int time) {
            if (!in(time, 0, 1999)) {
                return BAD;
            }
            return now.state(time / now.settings[0], now.watermark) == 1 ? now.lateBy(time) : NONE;
        }

        int latestExcused(int key, int excuse) {
            if (!in(key, 0, 5) || !in(excuse, 1, 3)) {
                return BAD;
            }
            for (int time = 1999; time >= 0; time--) {
                if (now.state(time / now.settings[0], now.watermark) == 1 && now.byKind(time, key, excuse)) {
                    return time;
                }
            }
            return NONE;
        }

        int filed(int cabinet, int place) {
            if (!in(cabinet, 0, 2) || !in(place, 0, 3)) {
                return BAD;
            }
            List<Integer> places = now.cabinets.get(cabinet);
            return place < places.size() ? places.get(place) : NONE;
        }

        int trust(int key) {
            if (!in(key, 0, 5)) {
                return BAD;
            }
            float counted = 0f;
            int all = 0;
            for (int[] event : now.events) {
                if (event[2] == key) {
                    all++;
                    counted += event[5] == 0 ? 1f : event[5] == 1 ? 0.5f : 0f;
                }
            }
            return all == 0 ? NONE : Float.floatToIntBits(counted / all);
        }

        private int outcomes(int least, int most) {
            return (int) now.events.stream().filter(e -> in(e[5], least, most)).count();
        }

        int count(int what) {
            switch (what) {
                case 0:
                    return now.events.size();
                case 1:
                    return outcomes(0, 1);
                case 2:
                    return outcomes(1, 1);
                case 3:
                    return outcomes(2, 3);
                case 4:
                    return now.doubles;
                case 5:
                    return now.watermark;
                case 6:
                    return now.latest;
                case 7:
                    return Math.min(40, now.words.size());
                case 8:
                    return (int) now.words.stream().filter(w -> w[0] == 0).count();
                case 9:
                    return (int) now.words.stream().filter(w -> w[0] == 1).count();
                case 10:
                    int closed = 0;
                    for (int own : now.own) {
                        closed += own == 3 ? 1 : 0;
                    }
                    return closed;
                case 11:
                    return now.moved ? 1 : 0;
                case 12:
                    return history.size();
                case 13:
                    return text.length();
                default:
                    return in(what, 20, 22) ? now.settings[what - 20] : BAD;
            }
        }

        int undo() {
            if (history.isEmpty()) {
                return IMPOSSIBLE;
            }
            now = history.remove(history.size() - 1);
            return history.size();
        }

        int type(int character) {
            if (!in(character, 32, 126)) {
                return BAD;
            }
            if (text.length() == 80) {
                return FULL;
            }
            text += (char) character;
            return text.length();
        }

        int clearText() {
            int before = text.length();
            text = "";
            return before;
        }

        /** The numbers of the events; the last row is the fault's place and reason, if there is one. */
        private List<int[]> read() {
            List<int[]> events = new ArrayList<>();
            Matcher matcher = EVENT.matcher(text);
            int place = 0;
            while (place < text.length()) {
                matcher.region(place, text.length());
                if (!matcher.lookingAt()) {
                    events.add(new int[] {place, 1});
                    return events;
                }
                int[] event = new int[5];
                for (int i = 0; i < 4; i++) {
                    event[i] = Integer.parseInt(matcher.group(i + 1));
                }
                event[4] = matcher.group(5).isEmpty() ? 0 : "nif".indexOf(matcher.group(5)) + 1;
                if (!in(event[0], 0, 63) || !in(event[1], 0, 1999) || !in(event[2], 0, 5)
                        || !in(event[3], -100, 100)) {
                    events.add(new int[] {place, 2});
                    return events;
                }
                events.add(event);
                place = matcher.end();
            }
            return events;
        }

        private int[] faultOf(List<int[]> events) {
            int[] last = events.isEmpty() ? null : events.get(events.size() - 1);
            return last != null && last.length == 2 ? last : null;
        }

        int fault(int what) {
            if (!in(what, 0, 1)) {
                return BAD;
            }
            int[] fault = faultOf(read());
            return fault == null ? NONE : fault[what];
        }

        int play() {
            List<int[]> events = read();
            if (faultOf(events) != null) {
                return IMPOSSIBLE;
            }
            change();
            int counting = 0;
            for (int[] event : events) {
                counting += now.come(event[0], event[1], event[2], event[3], event[4]) < 2 ? 1 : 0;
            }
            return counting;
        }
    }
}
