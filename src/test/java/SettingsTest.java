/** Promise 2, and what the terms say of settings. */
public final class SettingsTest {
    private static final String SET = "Promise 2";
    private static final String TERMS = "Promise 2, Settings";

    public static void main(String[] args) {
        what();
        value();
        size();
        lag();
        grace();
        otherOutOfRange();
        whatItWas();
        sizeWithEvents();
        sizeWithDoubleEvents();
        sizeWithTurnedAway();
        sizeWithEventsOfText();
        sizeWithoutEvents();
        othersWithEvents();
        noPaneIsShut();
        noCaseIsClosed();
        Case.end();
    }

    private static void what() {
        Case.of(SET, "`what`: 0 to 2")
            .outside("set(?, 5)", 0, 2)
            .is("set(0, 5)", 10)
            .is("set(2, 5)", 10);
    }

    private static void value() {
        Case.of(SET, "`value`: a value in its range")
            // 0 is in the ranges of the lag and the grace, but not in that of the size.
            .is("set(0, 0)", Case.INVALID)
            .is("set(1, 0)", 5)
            .is("set(2, 0)", 10)
            .is("set(0, 1)", 10)
            .row("set(?, 100)", 1, 0, 0)
            .row("set(?, 101)", Case.INVALID, Case.INVALID, Case.INVALID);
    }

    private static void size() {
        Case.of(TERMS, "0 the size of panes (1 to 100; 10)")
            .outside("set(0, ?)", 1, 100)
            .is("set(0, 1)", 10)
            .is("set(0, 100)", 1)
            .is("count(20)", 100);
    }

    private static void lag() {
        Case.of(TERMS, "1 the lag (0 to 100; 5)")
            .outside("set(1, ?)", 0, 100)
            .is("set(1, 0)", 5)
            .is("set(1, 100)", 0)
            .is("count(21)", 100);
    }

    private static void grace() {
        Case.of(TERMS, "2 the grace (0 to 100; 10)")
            .outside("set(2, ?)", 0, 100)
            .is("set(2, 0)", 10)
            .is("set(2, 100)", 0)
            .is("count(22)", 100);
    }

    private static void otherOutOfRange() {
        Case.of(SET, "INVALID_ARGUMENT if an argument is out of range")
            .changesNothing(Case.INVALID, "set(-1, 5)", "set(3, 5)", "set(0, 0)", "set(0, 101)",
                "set(1, -1)", "set(1, 101)", "set(2, -1)", "set(2, 101)", "set(-1, 101)");
    }

    private static void whatItWas() {
        Case.of(SET, "Returns what it was")
            .is("set(1, 7)", 5)
            .is("set(1, 7)", 7)
            .is("set(1, 0)", 7)
            .is("set(1, 9)", 0)
            .is("set(0, 3)", 10)
            .is("set(2, 4)", 10)
            .is("set(0, 3)", 3)
            .is("undo()", 3)
            .is("undo()", 2)
            .is("set(2, 1)", 10);
    }

    private static void sizeWithEvents() {
        Case.of(SET, "NOT_POSSIBLE for 0 if there was an event")
            .does("event(0, 5, 0, 1, 0)")
            .changesNothing(Case.NOT_POSSIBLE, "set(0, 20)", "set(0, 10)", "set(0, 1)", "set(0, 100)");
    }

    private static void sizeWithDoubleEvents() {
        Case.of(SET, "if there was an event (also a double one)")
            .does("event(0, 5, 0, 1, 0)", "event(0, 6, 0, 1, 0)")
            .changesNothing(Case.NOT_POSSIBLE, "set(0, 20)")
            .does("undo()")
            .is("set(0, 20)", Case.NOT_POSSIBLE);
    }

    private static void sizeWithTurnedAway() {
        Case.of(TERMS, "The size cannot be set when there was an event.")
            .does("event(0, 50, 0, 1, 0)")
            .is("event(1, 2, 0, 1, 0)", 2)
            .is("set(0, 20)", Case.NOT_POSSIBLE);
    }

    private static void sizeWithEventsOfText() {
        Case.of(TERMS, "The size cannot be set when there was an event.")
            .is("play()", 0)
            .is("set(0, 20)", 10)
            .types("1,2,3,4;")
            .is("play()", 1)
            .is("set(0, 10)", Case.NOT_POSSIBLE)
            .does("undo()")
            .is("set(0, 30)", 20);
    }

    private static void sizeWithoutEvents() {
        Case.of(SET, "NOT_POSSIBLE for 0 if there was an event")
            .is("event(64, 5, 0, 1, 0)", Case.INVALID)
            .is("set(0, 20)", 10)
            .does("event(0, 5, 0, 1, 0)")
            .is("set(0, 5)", Case.NOT_POSSIBLE)
            .does("undo()")
            .is("set(0, 5)", 20);
    }

    private static void othersWithEvents() {
        Case.of(SET, "NOT_POSSIBLE for 0")
            .does("event(0, 5, 0, 1, 0)")
            .is("set(1, 0)", 5)
            .is("set(2, 0)", 10);
    }

    private static void noPaneIsShut() {
        Case.of(SET, "No pane is shut by it.")
            .does("set(1, 20)", "event(0, 5, 0, 1, 0)", "event(1, 30, 0, 1, 0)")
            .is("count(5)", 10)
            .does("set(1, 0)")
            .is("count(5)", 10)
            .are(0, "paneOf(1, 0)", "paneOf(2, 0)")
            .is("event(2, 30, 0, 1, 0)", 0)
            .is("count(5)", 10)
            .is("event(3, 31, 0, 1, 0)", 0)
            .is("count(5)", 31)
            .are(1, "paneOf(1, 0)", "paneOf(2, 0)");
    }

    private static void noCaseIsClosed() {
        Case.of(SET, "No pane is shut by it.")
            .settings(10, 0, 5)
            .does("event(0, 10, 0, 1, 0)", "event(1, 9, 0, 1, 1)", "event(2, 12, 0, 1, 0)", "set(2, 0)")
            .is("paneOf(0, 0)", 2)
            .is("paneOf(0, 4)", 16);
    }
}
