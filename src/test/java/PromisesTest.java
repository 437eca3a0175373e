/**
 * The promises of ../shared/DOC.md, one method each: ordinary inputs, the edges that the document
 * names, and wrong inputs. Every answer that is due was worked out by hand from the document.
 */
public final class PromisesTest {
    private static final int INVALID = -1000001;
    private static final int NOT_POSSIBLE = -1000002;
    private static final int FULL = -1000003;
    private static final int NONE = -1000004;

    private static final int[] FAR = {Integer.MIN_VALUE, -1000, 1000000, Integer.MAX_VALUE};

    private static int wrong = 0;

    public static void main(String[] args) {
        promise1NewObject();
        promise2Set();
        promise3Event();
        promise3Excuses();
        promise3Cabinets();
        promise3Watermark();
        promise4Move();
        promise5PaneOf();
        promise6Mean();
        promise7Standing();
        promise8NextPane();
        promise9WordAt();
        promise9WordsKept();
        promise10EventOf();
        promise11Judge();
        promise12Lateness();
        promise13LatestExcused();
        promise14Filed();
        promise15Trust();
        promise16Count();
        promise17Undo();
        promise18Type();
        promise19ClearText();
        promise20Fault();
        promise21Play();
        System.out.println(wrong == 0 ? "all promises are kept" : wrong + " answers are not as due");
        if (wrong != 0) {
            System.exit(1);
        }
    }

    private static void due(String what, int got, int want) {
        if (got != want) {
            wrong++;
            System.out.println(what + ": answered " + got + ", due is " + want);
        }
    }

    private static void dueFloat(String what, int got, float want) {
        due(what, got, Float.floatToIntBits(want));
    }

    /** A court with these settings. */
    private static LateExcuses court(int size, int lag, int grace) {
        LateExcuses x = new LateExcuses();
        x.set(0, size);
        x.set(1, lag);
        x.set(2, grace);
        return x;
    }

    private static void type(LateExcuses x, String text) {
        for (int i = 0; i < text.length(); i++) {
            x.type(text.charAt(i));
        }
    }

    private static void promise1NewObject() {
        LateExcuses x = new LateExcuses();
        int[] numbers = {0, 0, 0, 0, 0, -1, -1, 0, 0, 0, 0, 0, 0, 0};
        for (int what = 0; what < numbers.length; what++) {
            due("1 new count " + what, x.count(what), numbers[what]);
        }
        due("1 size", x.count(20), 10);
        due("1 lag", x.count(21), 5);
        due("1 grace", x.count(22), 10);
        due("1 pane", x.paneOf(0, 0), 0);
        due("1 no word", x.wordAt(0, 0), NONE);
        due("1 no undo", x.undo(), NOT_POSSIBLE);
        for (int id = 0; id < 64; id++) {
            due("1 event " + id, x.eventOf(id, 0), NONE);
        }
        LateExcuses other = new LateExcuses();
        x.event(1, 1, 1, 1, 1);
        due("1 objects share nothing", other.count(0), 0);
        due("1 INVALID_ARGUMENT", LateExcuses.INVALID_ARGUMENT, INVALID);
        due("1 NOT_POSSIBLE", LateExcuses.NOT_POSSIBLE, NOT_POSSIBLE);
        due("1 LIMIT_REACHED", LateExcuses.LIMIT_REACHED, FULL);
        due("1 NOT_FOUND", LateExcuses.NOT_FOUND, NONE);
    }

    private static void promise2Set() {
        LateExcuses x = new LateExcuses();
        int[] firsts = {10, 5, 10};
        for (int what = 0; what < 3; what++) {
            due("2 first", x.set(what, 100), firsts[what]);
            due("2 highest", x.set(what, what == 0 ? 1 : 0), 100);
            due("2 lowest", x.count(20 + what), what == 0 ? 1 : 0);
            due("2 too high", x.set(what, 101), INVALID);
            due("2 too low", x.set(what, what == 0 ? 0 : -1), INVALID);
            due("2 stays", x.count(20 + what), what == 0 ? 1 : 0);
        }
        for (int far : FAR) {
            due("2 far what", x.set(far, 5), INVALID);
            due("2 far value", x.set(1, far), INVALID);
        }
        due("2 what -1", x.set(-1, 5), INVALID);
        due("2 what 3", x.set(3, 5), INVALID);

        x = new LateExcuses();
        x.event(0, 5, 0, 1, 0);
        due("2 size with events", x.set(0, 10), NOT_POSSIBLE);
        due("2 bad size with events", x.set(0, 0), INVALID);
        due("2 errors are no changes", x.count(12), 1);
        due("2 lag with events", x.set(1, 0), 5);
        due("2 no pane is shut", x.count(5), 0);
        due("2 grace with events", x.set(2, 3), 10);
        x.undo();
        x.undo();
        due("2 event undone", x.undo(), 0);
        due("2 size again", x.set(0, 20), 10);

        x = court(1, 10, 0);
        x.event(0, 30, 0, 1, 0);
        due("2 mark", x.count(5), 20);
        x.set(1, 0);
        due("2 the lag alone moves nothing", x.count(5), 20);
        x.event(1, 30, 0, 1, 0);
        due("2 nor does an equal time", x.count(5), 20);
        x.event(2, 31, 0, 1, 0);
        due("2 a greater time does", x.count(5), 31);
        x.set(1, 100);
        x.event(3, 40, 0, 1, 0);
        due("2 a greater lag takes nothing back", x.count(5), 31);

        x = court(10, 0, 5);
        x.event(0, 10, 0, 1, 0);
        x.event(1, 0, 0, 1, 1);
        x.set(2, 50);
        due("2 grace as it was", x.paneOf(0, 4), 16);
        x.event(2, 16, 0, 1, 0);
        due("2 closed by the old grace", x.paneOf(0, 0), 3);
        x.event(3, 20, 0, 1, 0);
        x.event(4, 19, 0, 1, 1);
        due("2 the new grace", x.paneOf(1, 4), 71);
    }

    private static void promise3Event() {
        LateExcuses x = new LateExcuses();
        due("3 lowest", x.event(0, 0, 0, -100, 0), 0);
        due("3 highest", x.event(63, 1999, 5, 100, 3), 0);
        due("3 late", x.event(1, 5, 0, 1, 0), 2);
        due("3 double of one that counts", x.event(0, 1999, 0, 1, 3), 4);
        due("3 double of one turned away", x.event(1, 1999, 0, 1, 3), 4);
        due("3 doubles do nothing more", x.count(1), 2);
        due("3 latest", x.count(6), 1999);
        due("3 they are changes", x.count(12), 4);
        int[] ids = {-1, 64};
        for (int id : ids) {
            due("3 id " + id, x.event(id, 0, 0, 0, 0), INVALID);
        }
        due("3 time -1", x.event(5, -1, 0, 0, 0), INVALID);
        due("3 time 2000", x.event(5, 2000, 0, 0, 0), INVALID);
        due("3 key -1", x.event(5, 0, -1, 0, 0), INVALID);
        due("3 key 6", x.event(5, 0, 6, 0, 0), INVALID);
        due("3 amount -101", x.event(5, 0, 0, -101, 0), INVALID);
        due("3 amount 101", x.event(5, 0, 0, 101, 0), INVALID);
        due("3 excuse -1", x.event(5, 0, 0, 0, -1), INVALID);
        due("3 excuse 4", x.event(5, 0, 0, 0, 4), INVALID);
        for (int far : FAR) {
            due("3 far id", x.event(far, 0, 0, 0, 0), INVALID);
            due("3 far time", x.event(5, far, 0, 0, 0), INVALID);
            due("3 far key", x.event(5, 0, far, 0, 0), INVALID);
            due("3 far amount", x.event(5, 0, 0, far, 0), INVALID);
            due("3 far excuse", x.event(5, 0, 0, 0, far), INVALID);
        }
        due("3 a double with a bad time", x.event(0, 2000, 0, 0, 0), INVALID);
        due("3 errors change nothing", x.eventOf(5, 0), NONE);
        due("3 nor the doubles", x.count(4), 2);

        x = court(10, 0, 3);
        x.event(0, 5, 0, 7, 0);
        x.event(1, 10, 0, 1, 0);
        due("3 end not reached", x.paneOf(1, 0), 0);
        due("3 excused", x.event(2, 3, 1, 2, 1), 1);
        due("3 counts in a reopened pane without excuse", x.event(3, 4, 2, 3, 0), 0);
        due("3 and with one, which is not used", x.event(4, 4, 2, 3, 2), 0);
        due("3 nothing filed for it", x.filed(1, 0), NONE);
        due("3 watermark 13", x.event(5, 13, 0, 1, 0), 0);
        due("3 not closed yet", x.event(6, 5, 0, 1, 0), 0);
        due("3 watermark 14", x.event(7, 14, 0, 1, 0), 0);
        due("3 closed", x.event(8, 5, 0, 1, 3), 3);
        due("3 sum", x.paneOf(0, 2), 7 + 2 + 3 + 3 + 1);
        due("3 last word", x.standing(0, 0), 5);
        due("3 the watermark within a pane leaves it open", x.event(9, 10, 0, 1, 0), 0);
    }

    private static void promise3Excuses() {
        LateExcuses x = court(10, 0, 10);
        x.event(0, 59, 0, 0, 0);
        due("3 the net, 10 late", x.judge(49, 0, 1), 1);
        x.event(1, 60, 0, 0, 0);
        due("3 the net, 1 late", x.judge(59, 0, 1), 1);
        due("3 the net, 11 late", x.judge(49, 0, 1), 2);
        due("3 no excuse, 1 late", x.event(10, 58, 0, 0, 0), 2);
        due("3 illness, 31 late", x.event(2, 29, 0, 0, 2), 1);
        due("3 illness once a key", x.event(3, 39, 0, 0, 2), 2);
        due("3 illness of another key", x.event(4, 39, 1, 0, 2), 1);
        due("3 illness, 41 late", x.event(5, 19, 2, 0, 2), 2);
        due("3 what is turned away is not used", x.event(6, 49, 2, 0, 2), 1);
        due("3 feast, 5", x.event(7, 5, 0, 0, 3), 1);
        due("3 feast, not 4", x.event(8, 11, 0, 0, 3), 2);
        due("3 feast, 6", x.event(9, 13, 0, 0, 3), 1);
        due("3 feast, not 0", x.judge(14, 0, 3), 0);
        due("3 feast, not 0, shut", x.judge(56, 0, 3), 2);

        x = court(10, 0, 10);
        x.event(0, 69, 0, 0, 0);
        due("3 illness, 40 late", x.event(1, 29, 0, 0, 2), 1);
    }

    private static void promise3Cabinets() {
        LateExcuses x = court(1, 0, 100);
        x.event(0, 99, 0, 0, 0);
        for (int key = 0; key < 6; key++) {
            due("3 illness of key " + key, x.event(1 + key, 90 + key, key, 0, 2), 1);
        }
        due("3 full own cabinet", x.filed(1, 3), 4);
        due("3 then the common one", x.filed(2, 0), 5);
        due("3 and once more", x.filed(2, 1), 6);
        due("3 the net has its own", x.event(10, 98, 0, 0, 1), 1);
        due("3 place 0", x.filed(0, 0), 10);
        due("3 feast", x.event(11, 5, 0, 0, 3), 1);
        due("3 feast", x.event(12, 6, 0, 0, 3), 1);
        due("3 common one full", x.event(13, 12, 0, 0, 3), 2);
        due("3 pane stays shut", x.paneOf(12, 0), 1);
        due("3 the net still has places", x.event(14, 97, 0, 0, 1), 1);
        due("3 third", x.event(15, 96, 0, 0, 1), 1);
        due("3 an own one for a reopened pane is not used", x.event(16, 95, 0, 0, 1), 0);
        due("3 11 late, nothing filed", x.event(17, 88, 0, 0, 1), 2);
        x.event(18, 100, 0, 0, 0);
        due("3 fourth", x.event(19, 99, 0, 0, 1), 1);
        x.event(20, 101, 0, 0, 0);
        due("3 all full", x.event(21, 100, 0, 0, 1), 2);
        due("3 lateness is told all the same", x.lateness(100), 1);
    }

    private static void promise3Watermark() {
        LateExcuses x = new LateExcuses();
        x.event(0, 4, 0, 1, 0);
        due("3 latest minus lag is -1", x.count(5), -1);
        x.event(1, 5, 0, 1, 0);
        due("3 watermark 0", x.count(5), 0);
        x.event(2, 3, 0, 1, 0);
        due("3 earlier times change nothing", x.count(5), 0);
        due("3 nor the latest time", x.count(6), 5);
        x.event(3, 14, 0, 1, 0);
        due("3 watermark 9", x.paneOf(0, 0), 0);
        due("3 judged before the watermark changes", x.event(4, 15, 0, 1, 0), 0);
        due("3 watermark 10", x.paneOf(0, 0), 1);
        due("3 word", x.standing(0, 0), 3);

        x = court(5, 0, 4);
        x.event(0, 1, 0, 1, 0);
        x.event(1, 7, 0, 2, 0);
        x.event(2, 10, 0, 3, 0);
        x.event(3, 8, 0, 4, 1);
        x.event(4, 12, 0, 5, 0);
        x.event(5, 40, 0, 6, 0);
        int[][] words = {{0, 0, 1, 1}, {0, 1, 1, 2}, {1, 1, 1, 2}, {0, 1, 2, 6}, {0, 2, 2, 8}};
        due("3 words by the numbers of panes", x.count(7), words.length);
        for (int index = 0; index < words.length; index++) {
            for (int what = 0; what < 4; what++) {
                due("3 word " + index + " " + what, x.wordAt(index, what), words[index][what]);
            }
        }
        due("3 closed by a leap, too", x.paneOf(1, 0), 3);
    }

    private static void promise4Move() {
        LateExcuses x = new LateExcuses();
        due("4 at -1", x.move(5), NOT_POSSIBLE);
        due("4 ticks before state", x.move(0), INVALID);
        x = court(5, 0, 2);
        for (int i = 0; i < 6; i++) {
            x.event(i, 5 * i, i, i, 0);
        }
        due("4 watermark 25", x.count(5), 25);
        due("4 excused", x.event(10, 24, 0, 1, 1), 1);
        due("4 ticks 0", x.move(0), INVALID);
        due("4 ticks 101", x.move(101), INVALID);
        for (int far : FAR) {
            due("4 far ticks", x.move(far), INVALID);
        }
        int words = x.count(7);
        due("4 panes 2 and 3, 4 is reopened", x.move(15), 2);
        due("4 watermark 10", x.count(5), 10);
        due("4 latest stays", x.count(6), 25);
        due("4 shut", x.paneOf(1, 0), 1);
        due("4 open", x.paneOf(2, 0), 0);
        due("4 reopened", x.paneOf(4, 0), 2);
        due("4 two words", x.count(7), words + 2);
        due("4 taken back", x.wordAt(words, 0), 1);
        due("4 by numbers", x.wordAt(words, 1), 2);
        due("4 by numbers", x.wordAt(words + 1, 1), 3);
        due("4 with the same sum", x.wordAt(words + 1, 3), 3);
        due("4 no word stands", x.standing(2, 0), NONE);
        due("4 the one of a shut pane does", x.standing(1, 0), 1);
        due("4 told", x.count(11), 1);
        due("4 once in all", x.move(1), NOT_POSSIBLE);
        due("4 counts in time", x.event(11, 12, 0, 10, 0), 0);
        due("4 the watermark stays behind", x.count(5), 10);
        x.event(12, 26, 0, 0, 0);
        due("4 told anew", x.standing(2, 1), 12);
        due("4 not closed at 26", x.paneOf(4, 0), 2);
        x.event(13, 28, 0, 0, 0);
        due("4 closed at 28", x.paneOf(4, 0), 3);
        x.undo();
        x.undo();
        x.undo();
        x.undo();
        due("4 undone", x.count(11), 0);
        due("4 again", x.move(100), 4);
        due("4 to -1 at least", x.count(5), -1);

        x = court(10, 0, 0);
        x.event(0, 500, 0, 1, 0);
        x.event(1, 499, 0, 1, 1);
        x.event(2, 501, 0, 1, 0);
        due("4 closed", x.paneOf(49, 0), 3);
        due("4 panes without events, but not the closed case", x.move(100), 9);
        due("4 closed stays", x.paneOf(49, 0), 3);
        due("4 end 410", x.paneOf(40, 0), 0);
        due("4 end 401", x.paneOf(39, 0), 1);
        due("4 the last word stands", x.standing(49, 0), 1);
        due("4 closed is closed", x.event(3, 499, 0, 1, 3), 3);

        x = court(10, 0, 0);
        x.event(0, 20, 0, 1, 0);
        due("4 an end equal to the watermark stays shut", x.move(10), 1);
        due("4 shut", x.paneOf(0, 0), 1);
        due("4 open", x.paneOf(1, 0), 0);

        x = court(10, 0, 0);
        x.event(0, 0, 0, 1, 0);
        due("4 watermark 0 can be moved", x.move(1), 0);
        due("4 to -1", x.count(5), -1);
        due("4 moved", x.move(1), NOT_POSSIBLE);
    }

    private static void promise5PaneOf() {
        LateExcuses x = new LateExcuses();
        due("5 last pane", x.paneOf(199, 1), 0);
        due("5 no times", x.paneOf(200, 1), INVALID);
        due("5 pane -1", x.paneOf(-1, 0), INVALID);
        due("5 what -1", x.paneOf(0, -1), INVALID);
        due("5 what 7", x.paneOf(0, 7), INVALID);
        for (int far : FAR) {
            due("5 far pane", x.paneOf(far, 0), INVALID);
            due("5 far what", x.paneOf(0, far), INVALID);
        }
        x.set(0, 1);
        due("5 pane 1999", x.paneOf(1999, 0), 0);
        due("5 pane 2000", x.paneOf(2000, 0), INVALID);
        x.set(0, 7);
        due("5 pane 285", x.paneOf(285, 0), 0);
        due("5 pane 286", x.paneOf(286, 0), INVALID);

        x = court(10, 0, 2);
        int[] empty = {0, 0, 0, 0, NONE, 0, 0};
        duePane(x, 1, empty);
        x.event(0, 12, 1, -30, 0);
        x.event(1, 19, 4, 10, 0);
        duePane(x, 1, new int[] {0, 2, -20, 18, NONE, 0, 0});
        x.event(2, 25, 0, 1, 0);
        duePane(x, 1, new int[] {1, 2, -20, 18, NONE, 1, 0});
        duePane(x, 0, new int[] {1, 0, 0, 0, NONE, 0, 0});
        x.event(3, 12, 1, 5, 1);
        duePane(x, 1, new int[] {2, 3, -15, 18, 28, 1, 1});
        x.event(4, 12, 5, 5, 0);
        duePane(x, 1, new int[] {2, 4, -10, 50, 28, 1, 1});
        x.event(5, 6, 0, 5, 3);
        duePane(x, 0, new int[] {2, 1, 5, 1, 28, 0, 0});
        x.event(6, 28, 0, 0, 0);
        duePane(x, 1, new int[] {3, 4, -10, 50, NONE, 2, 1});
        duePane(x, 0, new int[] {3, 1, 5, 1, NONE, 1, 0});
        x.event(7, 12, 2, 5, 1);
        duePane(x, 1, new int[] {3, 4, -10, 50, NONE, 2, 1});
    }

    private static void duePane(LateExcuses x, int pane, int[] wants) {
        for (int what = 0; what < 7; what++) {
            due("5 pane " + pane + " what " + what, x.paneOf(pane, what), wants[what]);
        }
    }

    private static void promise6Mean() {
        LateExcuses x = court(10, 0, 0);
        due("6 none", x.mean(0), NONE);
        due("6 pane -1", x.mean(-1), INVALID);
        due("6 pane 200", x.mean(200), INVALID);
        for (int far : FAR) {
            due("6 far", x.mean(far), INVALID);
        }
        x.event(0, 0, 0, 20, 0);
        dueFloat("6 one", x.mean(0), 20f);
        x.event(1, 1, 0, -25, 0);
        dueFloat("6 negative", x.mean(0), -2.5f);
        x.event(2, 2, 0, 15, 0);
        dueFloat("6 thirds", x.mean(0), 10f / 3f);
        x.event(3, 3, 0, -10, 0);
        due("6 zero", x.mean(0), 0);
        x.event(4, 4, 0, -100, 0);
        dueFloat("6 fifths", x.mean(0), -20f);
        x.event(5, 1999, 0, 100, 0);
        due("6 turned away", x.event(6, 0, 0, 50, 0), 2);
        dueFloat("6 does not count", x.mean(0), -20f);
        dueFloat("6 greatest", x.mean(199), 100f);
        for (int sum = -9; sum < 10; sum++) {
            LateExcuses y = court(100, 0, 0);
            for (int events = 1; events <= 64; events++) {
                y.event(events - 1, 0, 0, events == 1 ? sum : 0, 0);
                dueFloat("6 " + sum + " by " + events, y.mean(0), sum == 0 ? 0f : (float) sum / events);
            }
        }
    }

    private static void promise7Standing() {
        LateExcuses x = court(10, 0, 1);
        due("7 none", x.standing(0, 0), NONE);
        due("7 pane -1", x.standing(-1, 0), INVALID);
        due("7 pane 200", x.standing(200, 0), INVALID);
        due("7 what -1", x.standing(0, -1), INVALID);
        due("7 what 2", x.standing(0, 2), INVALID);
        for (int far : FAR) {
            due("7 far pane", x.standing(far, 0), INVALID);
            due("7 far what", x.standing(0, far), INVALID);
        }
        x.event(0, 1, 0, 7, 0);
        x.event(1, 2, 0, -9, 0);
        due("7 open", x.standing(0, 0), NONE);
        x.event(2, 10, 0, 1, 0);
        due("7 events", x.standing(0, 0), 2);
        due("7 sum", x.standing(0, 1), -2);
        due("7 turned away", x.event(3, 0, 0, 1, 0), 2);
        due("7 events", x.standing(0, 0), 2);
        x.event(4, 0, 0, 1, 1);
        due("7 taken back", x.standing(0, 0), NONE);
        x.event(5, 12, 0, 1, 0);
        due("7 told anew", x.standing(0, 0), 3);
        due("7 sum", x.standing(0, 1), -1);
        x.event(6, 30, 0, 1, 0);
        due("7 shut, but without events", x.standing(2, 0), NONE);
    }

    private static void promise8NextPane() {
        LateExcuses x = court(10, 0, 1);
        due("8 none", x.nextPane(-1), NONE);
        due("8 -2", x.nextPane(-2), INVALID);
        due("8 2000", x.nextPane(2000), INVALID);
        due("8 1999", x.nextPane(1999), NONE);
        for (int far : FAR) {
            due("8 far", x.nextPane(far), INVALID);
        }
        x.event(0, 72, 0, 0, 0);
        x.event(1, 74, 0, 0, 0);
        due("8 turned away", x.event(2, 40, 0, 0, 0), 2);
        x.event(3, 1999, 0, 0, 0);
        x.event(4, 5, 0, 0, 3);
        due("8 first", x.nextPane(-1), 0);
        due("8 second", x.nextPane(0), 7);
        due("8 just ahead", x.nextPane(6), 7);
        due("8 third", x.nextPane(7), 199);
        due("8 behind all", x.nextPane(199), NONE);
        due("8 a pane without times", x.nextPane(700), NONE);

        x = court(1, 100, 1);
        for (int id = 0; id < 64; id++) {
            x.event(id, 99 - id, 0, id, 0);
        }
        due("8 first of 64 panes", x.nextPane(-1), 36);
        for (int pane = 36; pane < 99; pane++) {
            due("8 of 64 panes", x.nextPane(pane), pane + 1);
            due("8 events of pane " + pane, x.paneOf(pane, 1), 1);
            due("8 sum of pane " + pane, x.paneOf(pane, 2), 99 - pane);
        }
        due("8 behind 64 panes", x.nextPane(99), NONE);
    }

    private static void promise9WordAt() {
        LateExcuses x = court(10, 0, 1);
        due("9 none", x.wordAt(0, 0), NONE);
        due("9 far index", x.wordAt(Integer.MAX_VALUE, 0), NONE);
        due("9 index -1", x.wordAt(-1, 0), INVALID);
        due("9 index least", x.wordAt(Integer.MIN_VALUE, 0), INVALID);
        due("9 what -1", x.wordAt(0, -1), INVALID);
        due("9 what 4", x.wordAt(0, 4), INVALID);
        for (int far : FAR) {
            due("9 far what", x.wordAt(0, far), INVALID);
        }
        x.event(0, 25, 0, 3, 0);
        x.event(1, 27, 0, 4, 0);
        x.event(2, 30, 0, 4, 0);
        x.event(3, 29, 0, 9, 1);
        int[][] words = {{0, 2, 2, 7}, {1, 2, 2, 7}};
        for (int index = 0; index < 2; index++) {
            for (int what = 0; what < 4; what++) {
                due("9 word " + index + " " + what, x.wordAt(index, what), words[index][what]);
            }
        }
        due("9 not so many", x.wordAt(2, 0), NONE);
    }

    private static void promise9WordsKept() {
        LateExcuses x = court(1, 0, 0);
        for (int i = 0; i < 41; i++) {
            x.event(i, i, 0, i, 0);
        }
        due("9 forty", x.count(7), 40);
        due("9 oldest", x.wordAt(0, 1), 0);
        due("9 latest", x.wordAt(39, 1), 39);
        due("9 no more", x.wordAt(40, 1), NONE);
        x.event(41, 41, 0, 0, 0);
        due("9 still forty", x.count(7), 40);
        due("9 told so far", x.count(8), 41);
        due("9 the oldest is dropped", x.wordAt(0, 1), 1);
        due("9 latest", x.wordAt(39, 1), 40);
        due("9 its sum", x.wordAt(39, 3), 40);
        x.move(2);
        due("9 taken back are words, too", x.wordAt(37, 0), 0);
        due("9 taken back", x.wordAt(38, 1), 39);
        due("9 taken back", x.wordAt(39, 1), 40);
        due("9 so many", x.count(9), 2);
        due("9 kept", x.count(7), 40);
        x.undo();
        due("9 the dropped ones are back", x.wordAt(0, 1), 1);
        due("9 the latest one, too", x.wordAt(39, 3), 40);
    }

    private static void promise10EventOf() {
        LateExcuses x = court(7, 0, 0);
        due("10 none", x.eventOf(0, 0), NONE);
        due("10 id -1", x.eventOf(-1, 0), INVALID);
        due("10 id 64", x.eventOf(64, 0), INVALID);
        due("10 what -1", x.eventOf(0, -1), INVALID);
        due("10 what 6", x.eventOf(0, 6), INVALID);
        for (int far : FAR) {
            due("10 far id", x.eventOf(far, 0), INVALID);
            due("10 far what", x.eventOf(0, far), INVALID);
        }
        x.event(0, 50, 3, -8, 2);
        x.event(63, 48, 5, 100, 1);
        x.event(7, 41, 4, 9, 0);
        x.event(0, 60, 1, 1, 1);
        x.event(8, 51, 1, 0, 0);
        x.event(9, 42, 1, 0, 3);
        int[][] events = {{0, 50, 3, -8, 2, 0, 7}, {63, 48, 5, 100, 1, 1, 6}, {7, 41, 4, 9, 0, 2, 5},
            {9, 42, 1, 0, 3, 3, 6}};
        for (int[] event : events) {
            for (int what = 0; what < 6; what++) {
                due("10 event " + event[0] + " " + what, x.eventOf(event[0], what), event[1 + what]);
            }
        }
    }

    private static void promise11Judge() {
        LateExcuses x = court(10, 0, 0);
        due("11 lowest", x.judge(0, 0, 0), 0);
        due("11 highest", x.judge(1999, 5, 3), 0);
        due("11 time -1", x.judge(-1, 0, 0), INVALID);
        due("11 time 2000", x.judge(2000, 0, 0), INVALID);
        due("11 key -1", x.judge(0, -1, 0), INVALID);
        due("11 key 6", x.judge(0, 6, 0), INVALID);
        due("11 excuse -1", x.judge(0, 0, -1), INVALID);
        due("11 excuse 4", x.judge(0, 0, 4), INVALID);
        for (int far : FAR) {
            due("11 far time", x.judge(far, 0, 0), INVALID);
            due("11 far key", x.judge(0, far, 0), INVALID);
            due("11 far excuse", x.judge(0, 0, far), INVALID);
        }
        x.event(0, 45, 0, 0, 0);
        due("11 none", x.judge(39, 0, 0), 2);
        due("11 net", x.judge(39, 0, 1), 1);
        due("11 illness", x.judge(15, 0, 2), 1);
        due("11 feast", x.judge(12, 0, 3), 1);
        due("11 no feast", x.judge(14, 0, 3), 2);
        due("11 changes nothing", x.count(12), 4);
        due("11 files nothing", x.filed(0, 0), NONE);
        x.event(1, 39, 0, 0, 1);
        due("11 reopened", x.judge(38, 0, 0), 0);
        x.event(2, 46, 0, 0, 0);
        due("11 closed", x.judge(38, 0, 1), 3);
        due("11 illness used", x.event(3, 29, 0, 0, 2), 1);
        due("11 illness used", x.judge(19, 0, 2), 2);
        due("11 of that key", x.judge(19, 1, 2), 1);
    }

    private static void promise12Lateness() {
        LateExcuses x = court(10, 0, 0);
        due("12 open", x.lateness(0), NONE);
        due("12 time -1", x.lateness(-1), INVALID);
        due("12 time 2000", x.lateness(2000), INVALID);
        due("12 time 1999", x.lateness(1999), NONE);
        for (int far : FAR) {
            due("12 far", x.lateness(far), INVALID);
        }
        x.event(0, 30, 0, 0, 0);
        due("12 least", x.lateness(29), 1);
        due("12 all times of a pane alike", x.lateness(20), 1);
        due("12 one pane back", x.lateness(19), 11);
        due("12 first pane", x.lateness(0), 21);
        due("12 open", x.lateness(30), NONE);
        x.event(1, 29, 0, 0, 1);
        due("12 reopened", x.lateness(29), NONE);
        x.event(2, 31, 0, 0, 0);
        due("12 closed", x.lateness(29), NONE);
        due("12 later", x.lateness(19), 12);
    }

    private static void promise13LatestExcused() {
        LateExcuses x = court(10, 0, 5);
        for (int excuse = 1; excuse < 4; excuse++) {
            due("13 none is shut", x.latestExcused(0, excuse), NONE);
        }
        due("13 key -1", x.latestExcused(-1, 1), INVALID);
        due("13 key 6", x.latestExcused(6, 1), INVALID);
        due("13 excuse 0", x.latestExcused(0, 0), INVALID);
        due("13 excuse 4", x.latestExcused(0, 4), INVALID);
        for (int far : FAR) {
            due("13 far key", x.latestExcused(far, 1), INVALID);
            due("13 far excuse", x.latestExcused(0, far), INVALID);
        }
        x.event(0, 52, 0, 0, 0);
        due("13 net", x.latestExcused(5, 1), 49);
        due("13 illness", x.latestExcused(0, 2), 49);
        due("13 feast", x.latestExcused(0, 3), 48);
        x.event(1, 49, 0, 0, 1);
        due("13 the net is 13 late then", x.latestExcused(0, 1), NONE);
        due("13 illness", x.latestExcused(0, 2), 39);
        due("13 feast", x.latestExcused(0, 3), 34);
        x.event(2, 39, 0, 0, 2);
        due("13 illness used", x.latestExcused(0, 2), NONE);
        due("13 not of key 1", x.latestExcused(1, 2), 29);
        x.event(3, 58, 0, 0, 0);
        due("13 closed cases are not late", x.latestExcused(0, 3), 27);

        x = court(1, 0, 100);
        x.event(0, 63, 0, 0, 0);
        int[] feasts = {5, 6, 12, 13};
        for (int i = 0; i < 4; i++) {
            x.event(1 + i, feasts[i], 0, 0, 3);
        }
        due("13 cabinet full", x.judge(62, 0, 3), 2);
        due("13 whatever is full", x.latestExcused(0, 3), 62);
        due("13 62 is shut", x.lateness(62), 1);

        x = court(1, 0, 100);
        x.event(0, 5, 0, 0, 0);
        due("13 no feast so far", x.latestExcused(0, 3), NONE);
        x.event(1, 6, 0, 0, 0);
        due("13 the first feast", x.latestExcused(0, 3), 5);
        x.event(2, 5, 0, 0, 1);
        due("13 it is reopened", x.latestExcused(0, 3), NONE);
        due("13 the one ahead", x.latestExcused(0, 1), 4);
    }

    private static void promise14Filed() {
        LateExcuses x = court(1, 0, 0);
        due("14 none", x.filed(0, 0), NONE);
        due("14 last", x.filed(2, 3), NONE);
        due("14 cabinet -1", x.filed(-1, 0), INVALID);
        due("14 cabinet 3", x.filed(3, 0), INVALID);
        due("14 place -1", x.filed(0, -1), INVALID);
        due("14 place 4", x.filed(0, 4), INVALID);
        for (int far : FAR) {
            due("14 far cabinet", x.filed(far, 0), INVALID);
            due("14 far place", x.filed(0, far), INVALID);
        }
        x.event(0, 50, 0, 0, 0);
        x.event(20, 49, 0, 0, 1);
        x.event(0, 48, 0, 0, 1);
        x.event(21, 47, 0, 0, 0);
        x.event(22, 48, 0, 0, 1);
        x.event(23, 46, 0, 0, 2);
        x.event(24, 5, 0, 0, 3);
        due("14 net", x.filed(0, 0), 20);
        due("14 net", x.filed(0, 1), 22);
        due("14 empty", x.filed(0, 2), NONE);
        due("14 illness", x.filed(1, 0), 23);
        due("14 feast", x.filed(2, 0), 24);
        x.event(25, 45, 0, 0, 1);
        x.event(26, 44, 0, 0, 1);
        x.event(27, 43, 0, 0, 1);
        due("14 net full", x.filed(0, 3), 26);
        due("14 the common one", x.filed(2, 1), 27);
    }

    private static void promise15Trust() {
        LateExcuses x = court(1, 0, 0);
        due("15 none", x.trust(0), NONE);
        due("15 key -1", x.trust(-1), INVALID);
        due("15 key 6", x.trust(6), INVALID);
        for (int far : FAR) {
            due("15 far", x.trust(far), INVALID);
        }
        x.event(0, 50, 5, 0, 3);
        dueFloat("15 all", x.trust(5), 1f);
        due("15 of its own", x.trust(0), NONE);
        x.event(1, 49, 5, 0, 1);
        dueFloat("15 half", x.trust(5), 0.75f);
        x.event(2, 48, 5, 0, 0);
        dueFloat("15 turned away", x.trust(5), 0.5f);
        x.event(2, 48, 5, 0, 0);
        dueFloat("15 doubles do not matter", x.trust(5), 0.5f);
        x.event(3, 51, 4, 0, 0);
        due("15 closed", x.event(4, 49, 4, 0, 0), 3);
        dueFloat("15 closed", x.trust(4), 0.5f);
        x.event(5, 2, 4, 0, 0);
        dueFloat("15 a third", x.trust(4), 1f / 3f);
        x.event(6, 1, 0, 0, 0);
        due("15 nothing", x.trust(0), 0);
        for (int id = 7; id < 64; id++) {
            x.event(id, 50, 3, 0, id == 7 ? 1 : id == 8 ? 0 : id == 9 ? 3 : 0);
            if (id == 7) {
                dueFloat("15 excused alone", x.trust(3), 0.5f);
            }
        }
        dueFloat("15 many", x.trust(3), 56.5f / 57f);
    }

    private static void promise16Count() {
        LateExcuses x = court(10, 2, 1);
        int[] bad = {-1, 14, 19, 23, Integer.MIN_VALUE, Integer.MAX_VALUE};
        for (int what : bad) {
            due("16 what " + what, x.count(what), INVALID);
        }
        x.event(0, 5, 0, 1, 0);
        x.event(1, 22, 0, 1, 0);
        x.event(2, 12, 0, 1, 1);
        x.event(3, 12, 0, 1, 0);
        x.event(4, 2, 0, 1, 0);
        x.event(5, 24, 0, 1, 0);
        x.event(6, 12, 0, 1, 1);
        x.event(6, 13, 0, 1, 1);
        x.event(7, 23, 0, 1, 1);
        x.move(4);
        type(x, "abc");
        int[] numbers = {8, 6, 1, 2, 1, 18, 24, 2, 2, 0, 1, 1, 4, 3};
        for (int what = 0; what < numbers.length; what++) {
            due("16 count " + what, x.count(what), numbers[what]);
        }
        due("16 size", x.count(20), 10);
        due("16 lag", x.count(21), 2);
        due("16 grace", x.count(22), 1);
    }

    private static void promise17Undo() {
        LateExcuses x = new LateExcuses();
        due("17 empty", x.undo(), NOT_POSSIBLE);
        x.set(0, 5);
        due("17 set", x.undo(), 0);
        due("17 first value", x.count(20), 10);
        x.set(1, 7);
        x.set(2, 8);
        due("17 grace", x.undo(), 1);
        due("17 grace", x.count(22), 10);
        due("17 lag", x.undo(), 0);
        due("17 lag", x.count(21), 5);
        x = court(5, 0, 2);
        x.event(0, 1, 0, 4, 0);
        x.event(1, 5, 0, 5, 0);
        due("17 at most 4", x.count(12), 4);
        x.event(2, 2, 1, 6, 2);
        x.event(2, 2, 1, 6, 2);
        x.move(3);
        x.event(3, 20, 0, 1, 0);
        due("17 closed", x.paneOf(0, 0), 3);
        x.type('a');
        due("17 the event", x.undo(), 3);
        due("17 reopened", x.paneOf(0, 0), 2);
        due("17 watermark", x.count(5), 2);
        due("17 latest", x.count(6), 5);
        due("17 text stays", x.count(13), 1);
        due("17 the move", x.undo(), 2);
        due("17 watermark", x.count(5), 5);
        due("17 moved", x.count(11), 0);
        due("17 the double", x.undo(), 1);
        due("17 doubles", x.count(4), 0);
        due("17 filed", x.filed(1, 0), 2);
        due("17 the excuse", x.undo(), 0);
        due("17 filed", x.filed(1, 0), NONE);
        due("17 the word stands again", x.standing(0, 1), 4);
        due("17 words", x.count(7), 1);
        due("17 taken back", x.count(9), 0);
        due("17 shut", x.paneOf(0, 0), 1);
        due("17 illness is not used", x.judge(2, 1, 2), 1);
        due("17 no such event", x.eventOf(2, 0), NONE);
        due("17 empty", x.undo(), NOT_POSSIBLE);
        due("17 panes", x.nextPane(0), 1);
        x.event(9, 10, 0, 6, 0);
        due("17 told", x.count(8), 2);
        due("17 word", x.wordAt(1, 1), 1);
        x.undo();
        due("17 told", x.count(8), 1);
        x.event(10, 15, 0, 7, 0);
        x.event(11, 20, 0, 8, 0);
        due("17 another word", x.wordAt(2, 1), 3);
        x.undo();
        x.undo();
        due("17 panes", x.nextPane(1), NONE);
        due("17 first word", x.wordAt(0, 3), 4);
        due("17 goes on", x.event(2, 2, 1, 6, 2), 1);
        due("17 one state", x.count(12), 1);
        x.set(7, 7);
        x.event(99, 0, 0, 0, 0);
        x.move(0);
        x.clearText();
        x.type('9');
        due("17 no play with a fault", x.play(), NOT_POSSIBLE);
        due("17 errors and texts are no changes", x.count(12), 1);
        x.set(2, 2);
        due("17 a set to the same is one", x.count(12), 2);
    }

    private static void promise18Type() {
        LateExcuses x = new LateExcuses();
        due("18 31", x.type(31), INVALID);
        due("18 127", x.type(127), INVALID);
        for (int far : FAR) {
            due("18 far", x.type(far), INVALID);
        }
        due("18 32", x.type(32), 1);
        due("18 126", x.type(126), 2);
        for (int i = 3; i <= 80; i++) {
            due("18 length", x.type('0'), i);
        }
        due("18 full", x.type('0'), FULL);
        due("18 full, but invalid", x.type(31), INVALID);
        due("18 length stays", x.count(13), 80);
        due("18 no change", x.count(12), 0);
    }

    private static void promise19ClearText() {
        LateExcuses x = new LateExcuses();
        due("19 empty", x.clearText(), 0);
        type(x, "12;");
        due("19 three", x.clearText(), 3);
        due("19 emptied", x.count(13), 0);
        due("19 no fault", x.fault(0), NONE);
        due("19 empty", x.clearText(), 0);
        due("19 no change", x.undo(), NOT_POSSIBLE);
        for (int i = 0; i < 80; i++) {
            x.type('x');
        }
        due("19 eighty", x.clearText(), 80);
        due("19 again", x.type('y'), 1);
    }

    private static void promise20Fault() {
        LateExcuses x = new LateExcuses();
        due("20 what -1", x.fault(-1), INVALID);
        due("20 what 2", x.fault(2), INVALID);
        for (int far : FAR) {
            due("20 far", x.fault(far), INVALID);
        }
        dueFault("", NONE, NONE);
        dueFault("0,0,0,0;", NONE, NONE);
        dueFault("63,1999,5,100n;0063,0000,0005,-0100i;1,1,1,-0f;", NONE, NONE);
        String[] forms = {";", "1", "1,", "1,1,1,1", "1,1,1;", "1,1,1,1,", "1,1,1,1,1;", "1,1,1,1x;",
            "1,1,1,1nn;", "1,1,1,1 ;", " 1,1,1,1;", "-1,1,1,1;", "1,-1,1,1;", "1,1,-1,1;", "1,1,1,--1;",
            "1,1,1,-;", "1,1,1,;", ",1,1,1;", "1,,1,1;", "00001,1,1,1;", "1,00001,1,1;", "1,1,00001,1;",
            "1,1,1,00001;", "1,1,1,-00001;", "1,1,1,1-;", "1,1,1,+1;", "1;1,1,1;", "1,1,1,1N;", "1,1,1,n;",
            "a,1,1,1;", "1,1,1,1:", "1,1,1,1n", "/,1,1,1;", ":,1,1,1;", "64,1,1,1"};
        for (String form : forms) {
            dueFault(form, 0, 1);
            dueFault("2,2,2,2;" + form, 8, 1);
            if (form.endsWith(";")) {
                dueFault("2,2,2,2;03,3,3,-3f;" + form + "4,4,4,4;", 19, 1);
            }
        }
        String[] ranges = {"64,1,1,1;", "9999,1,1,1;", "1,2000,1,1;", "1,9999,1,1;", "1,1,6,1;", "1,1,1,101;",
            "1,1,1,-101n;", "1,1,1,9999;", "1,1,1,-9999;"};
        for (String range : ranges) {
            dueFault(range, 0, 2);
            dueFault("2,2,2,2;" + range, 8, 2);
            dueFault("2,2,2,2;" + range + ";", 8, 2);
            dueFault("2,2,2,2;" + "x;" + range, 8, 1);
        }
        dueFault("1,1,1,1;1,1,1,1;", NONE, NONE);
        dueFault("0,0,0,0;".repeat(10), NONE, NONE);
        dueFault("0,0,0,0;".repeat(9) + "00,0,0,0", 72, 1);
    }

    private static void dueFault(String text, int place, int reason) {
        LateExcuses x = new LateExcuses();
        type(x, text);
        due("20 place in " + text, x.fault(0), place);
        due("20 reason in " + text, x.fault(1), reason);
        due("20 change by " + text, x.count(12), 0);
        due("21 play of " + text, x.play() == NOT_POSSIBLE ? 1 : 0, place == NONE ? 0 : 1);
    }

    private static void promise21Play() {
        LateExcuses x = court(10, 0, 1);
        due("21 none", x.play(), 0);
        due("21 is a change", x.count(12), 4);
        x = court(10, 0, 1);
        x.undo();
        x.undo();
        due("21 one state", x.count(12), 1);
        x.set(1, 0);
        x.set(2, 1);
        type(x, "5,3,0,-7;6,25,1,020f;7,12,2,1n;8,13,3,0001;5,1,1,1;9,4,4,2;10,27,0,0;11,15,0,3i;");
        due("21 all signs", x.count(13), 80);
        due("21 four in time, one excused", x.play(), 5);
        due("21 one change", x.count(12), 4);
        due("21 the text stays", x.count(13), 80);
        int[][] events = {{5, 3, 0, -7, 0, 0}, {6, 25, 1, 20, 3, 0}, {7, 12, 2, 1, 1, 1}, {8, 13, 3, 1, 0, 0},
            {9, 4, 4, 2, 0, 2}, {10, 27, 0, 0, 0, 0}, {11, 15, 0, 3, 2, 3}};
        for (int[] event : events) {
            for (int what = 0; what < 5; what++) {
                due("21 event " + event[0] + " " + what, x.eventOf(event[0], what), event[1 + what]);
            }
        }
        due("21 double", x.count(4), 1);
        due("21 closed", x.paneOf(1, 0), 3);
        due("21 all doubles now", x.play(), 0);
        due("21 doubles", x.count(4), 9);
        due("21 undone at once", x.undo(), 3);
        due("21 undone", x.undo(), 2);
        due("21 no events", x.count(0), 0);
        due("21 nor doubles", x.count(4), 0);
        due("21 again", x.play(), 5);
        x.clearText();
        type(x, "12,30,0,0;13,30,6,0;");
        due("21 fault", x.play(), NOT_POSSIBLE);
        due("21 nothing came", x.eventOf(12, 0), NONE);
        due("21 no state", x.count(12), 3);
    }
}
