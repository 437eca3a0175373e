/** The public face, Promise 1, and what the terms say of a new object. */
public final class FaceTest {
    private static final String FACE = "Promise 1, The constants";
    private static final String NEW = "Promise 1";

    public static void main(String[] args) {
        constants();
        withoutEvents();
        withoutWordsAndExcuses();
        ownState();
        latestAtFirst();
        watermarkAtFirst();
        settingsAtFirst();
        textAtFirst();
        calls();
        Case.end();
    }

    private static void constants() {
        Case.of(FACE, "`INVALID_ARGUMENT = -1000001`").equal(LateExcuses.INVALID_ARGUMENT, -1000001);
        Case.of(FACE, "`NOT_POSSIBLE = -1000002`").equal(LateExcuses.NOT_POSSIBLE, -1000002);
        Case.of(FACE, "`LIMIT_REACHED = -1000003`").equal(LateExcuses.LIMIT_REACHED, -1000003);
        Case.of(FACE, "`NOT_FOUND = -1000004`").equal(LateExcuses.NOT_FOUND, -1000004);
    }

    private static void withoutEvents() {
        Case none = Case.of(NEW, "Creates a court without events.");
        for (int id = 0; id < 64; id++) {
            none.is("eventOf(" + id + ", 4)", Case.NONE);
        }
        none.row("count(?)", 0, 0, 0, 0, 0)
            .row("trust(?)", Case.NONE, Case.NONE, Case.NONE, Case.NONE, Case.NONE, Case.NONE)
            .row("paneOf(0, ?)", 0, 0, 0, 0, Case.NONE, 0, 0)
            .row("paneOf(199, ?)", 0, 0, 0, 0, Case.NONE, 0, 0)
            .are(Case.NONE, "mean(0)", "nextPane(-1)", "lateness(0)", "standing(0, 0)");
    }

    private static void withoutWordsAndExcuses() {
        Case.of(NEW, "Creates a court")
            .is("wordAt(0, 0)", Case.NONE)
            .row("filed(0, ?)", Case.NONE, Case.NONE, Case.NONE, Case.NONE)
            .row("filed(1, ?)", Case.NONE, Case.NONE, Case.NONE, Case.NONE)
            .row("filed(2, ?)", Case.NONE, Case.NONE, Case.NONE, Case.NONE)
            .are(0, "count(7)", "count(8)", "count(9)", "count(10)", "count(11)", "count(12)")
            .is("undo()", Case.NOT_POSSIBLE);
    }

    private static void ownState() {
        Case first = Case.of(NEW, "`LateExcuses()`");
        first.does("set(0, 1)", "event(3, 50, 0, 1, 0)", "event(4, 49, 0, 1, 1)", "type(49)");
        Case.of(NEW, "`LateExcuses()`")
            .are(0, "count(0)", "count(8)", "count(12)", "count(13)")
            .is("count(20)", 10)
            .is("filed(0, 0)", Case.NONE);
        first.is("count(0)", 2);
    }

    private static void latestAtFirst() {
        Case.of("Promise 1, Panes and the watermark", "The latest time is the greatest time of all "
                + "events so far that were not double, -1 at first").is("count(6)", -1);
    }

    private static void watermarkAtFirst() {
        Case.of("Promise 1, Panes and the watermark", "the watermark is -1 at first")
            .is("count(5)", -1)
            .are(0, "paneOf(0, 0)", "judge(0, 0, 0)");
    }

    private static void settingsAtFirst() {
        Case.of("Promise 1, Settings", "The settings are (in parentheses: range; first value)")
            .is("count(20)", 10)
            .is("count(21)", 5)
            .is("count(22)", 10);
    }

    private static void textAtFirst() {
        Case.of("Promise 1, Texts", "There is a text of at most 80 characters, initially empty")
            .is("count(13)", 0)
            .is("clearText()", 0);
    }

    private static void calls() {
        Case many = Case.of("Promise 1, What it is",
                "An object is used for at most 512 calls after it has been made");
        many.does("set(0, 1)", "set(1, 0)");
        for (int id = 0; id < 64; id++) {
            many.is("event(" + id + ", " + id + ", 0, 1, 0)", 0);
        }
        for (int times = 1; times <= 445; times++) {
            many.is("event(0, 1999, 0, 1, 0)", 4);
        }
        many.is("count(4)", 445);
    }
}
