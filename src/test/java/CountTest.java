/** Promise 16. */
public final class CountTest {
    private static final String COUNT = "Promise 16";

    public static void main(String[] args) {
        outOfRange();
        notDouble();
        counting();
        excused();
        turnedAway();
        doubles();
        watermark();
        latest();
        words();
        closedCases();
        moved();
        states();
        text();
        settings();
        Case.end();
    }

    private static void outOfRange() {
        Case.of(COUNT, "INVALID_ARGUMENT if what is out of range")
            .outside("count(?)", 0, 22)
            .are(Case.INVALID, "count(14)", "count(15)", "count(16)", "count(17)", "count(18)", "count(19)");
    }

    /** Eight events of all kinds that are answered, the last one double. */
    private static Case eight(String sentence) {
        return Case.of(COUNT, sentence).settings(10, 2, 1)
            .is("event(0, 5, 0, 1, 0)", 0)
            .is("event(1, 22, 0, 1, 0)", 0)
            .is("event(2, 12, 0, 1, 1)", 1)
            .is("event(3, 12, 0, 1, 0)", 0)
            .is("event(4, 2, 0, 1, 0)", 2)
            .is("event(5, 24, 0, 1, 0)", 0)
            .is("event(6, 12, 0, 1, 1)", 3)
            .is("event(6, 99, 0, 1, 1)", 4);
    }

    private static void notDouble() {
        eight("0: events that were not double").is("count(0)", 7).does("undo()").is("count(0)", 7)
            .does("undo()").is("count(0)", 6);
    }

    private static void counting() {
        eight("1: events that count").is("count(1)", 5).does("undo()", "undo()", "undo()").is("count(1)", 4);
    }

    private static void excused() {
        eight("2: events that were late and excused").is("count(2)", 1)
            .does("event(7, 5, 0, 1, 3)").is("count(2)", 2)
            .does("event(8, 5, 0, 1, 3)").is("count(2)", 2);
    }

    private static void turnedAway() {
        eight("3: events that were turned away").is("count(3)", 2)
            .does("undo()").is("count(3)", 2).does("undo()").is("count(3)", 1)
            .does("undo()", "undo()").is("count(3)", 0);
    }

    private static void doubles() {
        eight("4: double events").is("count(4)", 1)
            .does("event(4, 30, 0, 1, 0)", "event(0, 30, 0, 1, 0)").is("count(4)", 3)
            .is("event(0, 2000, 0, 1, 0)", Case.INVALID)
            .is("count(4)", 3)
            .does("undo()").is("count(4)", 2);
    }

    private static void watermark() {
        eight("5: the watermark").is("count(5)", 22)
            .does("move(4)").is("count(5)", 18).does("undo()").is("count(5)", 22);
    }

    private static void latest() {
        eight("6: the latest time").is("count(6)", 24)
            .does("move(4)").is("count(6)", 24)
            .does("event(9, 1999, 0, 1, 0)").is("count(6)", 1999).does("undo()").is("count(6)", 24);
    }

    private static void words() {
        eight("7: words that are kept; 8: words told so far; 9: words taken back so far")
            .is("count(7)", 2).is("count(8)", 2).is("count(9)", 0)
            .does("event(9, 5, 0, 1, 3)").is("count(7)", 3).is("count(8)", 2).is("count(9)", 1)
            .does("event(10, 26, 0, 1, 0)").is("count(7)", 4).is("count(8)", 3).is("count(9)", 1)
            .does("undo()", "undo()").is("count(7)", 2).is("count(8)", 2).is("count(9)", 0);
    }

    private static void closedCases() {
        eight("10: closed cases").is("count(10)", 1)
            .does("event(9, 5, 0, 1, 3)").is("count(10)", 1)
            .does("event(10, 26, 0, 1, 0)").is("count(10)", 2)
            .does("move(25)").is("count(10)", 2)
            .does("undo()", "undo()").is("count(10)", 1);
    }

    private static void moved() {
        eight("11: 1 if the watermark was moved, otherwise 0").is("count(11)", 0)
            .does("move(1)").is("count(11)", 1)
            .does("event(9, 99, 0, 1, 0)").is("count(11)", 1)
            .does("undo()", "undo()").is("count(11)", 0);
    }

    private static void states() {
        Case.of(COUNT, "12: states in the history").is("count(12)", 0)
            .does("set(1, 1)").is("count(12)", 1)
            .does("set(1, 1)", "set(1, 1)", "set(1, 1)").is("count(12)", 4)
            .does("set(1, 1)").is("count(12)", 4)
            .does("undo()").is("count(12)", 3);
    }

    private static void text() {
        Case.of(COUNT, "13: the length of the text").is("count(13)", 0)
            .types("1,2,3,4;").is("count(13)", 8)
            .does("play()").is("count(13)", 8)
            .does("undo()").is("count(13)", 8)
            .does("clearText()").is("count(13)", 0);
        Case full = Case.of(COUNT, "13: the length of the text");
        for (int length = 1; length <= 80; length++) {
            full.does("type(32)").is("count(13)", length);
        }
        full.is("type(32)", Case.FULL).is("count(13)", 80);
    }

    private static void settings() {
        Case.of(COUNT, "20 to 22: the settings 0 to 2")
            .is("count(20)", 10).is("count(21)", 5).is("count(22)", 10)
            .settings(100, 0, 99)
            .is("count(20)", 100).is("count(21)", 0).is("count(22)", 99)
            .does("undo()").is("count(22)", 10)
            .are(Case.INVALID, "count(19)", "count(23)");
    }
}
