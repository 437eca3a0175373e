/** Promise 17, and what the terms say of changes and errors. */
public final class HistoryTest {
    private static final String UNDO = "Promise 17";
    private static final String TERMS = "Promise 17, Changes and errors";
    private static final String CHANGES =
            "The changes are the calls of set, event, move and play that return no error.";
    private static final String RECORDS = "each change records everything before it but the text";
    private static final String SEVERAL =
            "If several errors apply to a call, INVALID_ARGUMENT is returned rather than NOT_POSSIBLE";
    private static final String NOTHING = "A call that returns an error changes nothing.";

    public static void main(String[] args) {
        changes();
        changesWithoutEffect();
        otherCalls();
        refusedCalls();
        atMostFour();
        oldestDropped();
        roundAndRound();
        undoneAndChangedAgain();
        empty();
        statesLeft();
        settings();
        events();
        doubles();
        trusts();
        watermarkAndLatest();
        moved();
        panes();
        newPanes();
        closedCases();
        words();
        cabinets();
        played();
        text();
        invalidRatherThanNotPossible();
        invalidRatherThanLimitReached();
        invalidRatherThanNotFound();
        errorsOfSet();
        errorsOfEvent();
        errorsOfMove();
        errorsOfTexts();
        errorsOfUndo();
        errorsOfQuestions();
        Case.end();
    }

    private static void changes() {
        Case.of(TERMS, CHANGES).does("set(1, 0)").is("count(12)", 1);
        Case.of(TERMS, CHANGES).does("event(0, 50, 0, 0, 0)").is("count(12)", 1).does("move(3)").is("count(12)", 2);
        Case.of(TERMS, CHANGES).types("1,2,3,4;2,3,4,5;").does("play()").is("count(12)", 1);
    }

    private static void changesWithoutEffect() {
        Case.of(TERMS, CHANGES).does("set(1, 5)").is("count(12)", 1).is("undo()", 0);
        Case.of(TERMS, CHANGES).does("event(0, 50, 0, 0, 0)").is("event(0, 50, 0, 0, 0)", 4).is("count(12)", 2)
            .is("event(1, 9, 0, 0, 0)", 2).is("count(12)", 3);
        Case.of(TERMS, CHANGES).does("event(0, 9, 0, 0, 0)").is("move(1)", 0).is("count(12)", 2);
        Case.of(TERMS, CHANGES).is("play()", 0).is("count(12)", 1);
    }

    private static void otherCalls() {
        Case.of(TERMS, CHANGES).does("type(49)", "clearText()", "type(50)").is("count(12)", 0)
            .does("set(1, 1)", "set(1, 2)")
            .does("type(49)", "clearText()", "count(0)", "paneOf(0, 0)", "judge(0, 0, 0)").is("count(12)", 2)
            .does("undo()").is("count(12)", 1)
            .is("count(21)", 1);
    }

    private static void refusedCalls() {
        Case.of(TERMS, CHANGES).does("event(0, 50, 0, 0, 0)", "type(49)")
            .is("set(0, 5)", Case.NOT_POSSIBLE).is("set(3, 5)", Case.INVALID).is("event(64, 0, 0, 0, 0)", Case.INVALID)
            .is("move(0)", Case.INVALID).is("play()", Case.NOT_POSSIBLE).is("type(31)", Case.INVALID)
            .is("count(12)", 1)
            .is("undo()", 0);
    }

    private static void atMostFour() {
        Case.of(TERMS, "A history of at most 4 states is kept")
            .does("set(1, 1)").is("count(12)", 1)
            .does("set(1, 2)").is("count(12)", 2)
            .does("set(1, 3)").is("count(12)", 3)
            .does("set(1, 4)").is("count(12)", 4)
            .does("set(1, 6)").is("count(12)", 4)
            .does("set(1, 7)").is("count(12)", 4);
    }

    private static void oldestDropped() {
        Case.of(TERMS, "if there are 5 states then, the oldest one is dropped")
            .does("set(1, 1)", "set(1, 2)", "set(1, 3)", "set(1, 4)")
            .does("undo()", "undo()", "undo()", "undo()").is("count(21)", 5);
        Case.of(TERMS, "if there are 5 states then, the oldest one is dropped")
            .does("set(1, 1)", "set(1, 2)", "set(1, 3)", "set(1, 4)", "set(1, 6)")
            .is("undo()", 3).is("count(21)", 4)
            .is("undo()", 2).is("count(21)", 3)
            .is("undo()", 1).is("count(21)", 2)
            .is("undo()", 0).is("count(21)", 1)
            .is("undo()", Case.NOT_POSSIBLE).is("count(21)", 1);
    }

    private static void roundAndRound() {
        for (int changes = 5; changes < 30; changes++) {
            Case round = Case.of(TERMS, "if there are 5 states then, the oldest one is dropped");
            for (int value = 1; value <= changes; value++) {
                round.does("set(2, " + value + ")").is("count(12)", value < 4 ? value : 4);
            }
            for (int back = 1; back <= 4; back++) {
                round.is("undo()", 4 - back).is("count(22)", changes - back);
            }
            round.is("undo()", Case.NOT_POSSIBLE).is("count(22)", changes - 4);
        }
    }

    private static void undoneAndChangedAgain() {
        Case.of(UNDO, "Restores the latest state of the history, which is removed from it.")
            .does("set(2, 1)", "set(2, 2)", "set(2, 3)", "set(2, 4)", "set(2, 5)")
            .is("undo()", 3).is("undo()", 2).is("count(22)", 3)
            .does("set(2, 30)", "set(2, 31)", "set(2, 32)").is("count(12)", 4)
            .is("undo()", 3).is("count(22)", 31)
            .is("undo()", 2).is("count(22)", 30)
            .is("undo()", 1).is("count(22)", 3)
            .is("undo()", 0).is("count(22)", 2)
            .is("undo()", Case.NOT_POSSIBLE);
    }

    private static void empty() {
        Case.of(UNDO, "NOT_POSSIBLE if it is empty")
            .is("undo()", Case.NOT_POSSIBLE)
            .does("type(49)").is("undo()", Case.NOT_POSSIBLE).is("count(13)", 1)
            .does("set(1, 1)").is("undo()", 0).is("undo()", Case.NOT_POSSIBLE).is("count(21)", 5);
    }

    private static void statesLeft() {
        Case.of(UNDO, "Returns the number of states that are left in the history")
            .does("set(1, 1)").is("undo()", 0)
            .does("set(1, 1)", "set(1, 2)").is("undo()", 1).is("undo()", 0)
            .does("set(1, 1)", "set(1, 2)", "set(1, 3)", "set(1, 4)", "set(1, 6)")
            .is("undo()", 3).is("undo()", 2).is("undo()", 1).is("undo()", 0);
    }

    private static void settings() {
        Case.of(TERMS, RECORDS).settings(3, 4, 6)
            .does("undo()").is("count(22)", 10).is("count(21)", 4)
            .does("undo()").is("count(21)", 5).is("count(20)", 3)
            .does("undo()").is("count(20)", 10);
    }

    private static void events() {
        Case.of(TERMS, RECORDS).does("event(0, 50, 1, 7, 0)", "event(1, 5, 2, 8, 3)", "event(2, 41, 3, 9, 0)")
            .row("count(?)", 3, 3, 1, 0)
            .does("undo()").row("eventOf(2, ?)", Case.NONE, Case.NONE).row("count(?)", 2, 2, 1, 0)
            .does("undo()").row("eventOf(1, ?)", Case.NONE, Case.NONE).row("count(?)", 1, 1, 0, 0)
            .row("eventOf(0, ?)", 50, 1, 7, 0, 0, 5)
            .does("event(0, 51, 1, 1, 0)", "undo()").row("eventOf(0, ?)", 50, 1, 7, 0, 0, 5)
            .does("undo()").is("eventOf(0, 0)", Case.NONE).is("count(0)", 0)
            .is("set(0, 5)", 10);
    }

    private static void doubles() {
        Case.of(TERMS, RECORDS).does("event(0, 50, 1, 7, 0)", "event(0, 50, 1, 7, 0)", "event(0, 50, 1, 7, 0)")
            .is("count(4)", 2)
            .does("undo()").is("count(4)", 1)
            .does("undo()").is("count(4)", 0);
    }

    private static void trusts() {
        Case.of(TERMS, RECORDS).does("event(0, 50, 1, 7, 0)", "event(1, 5, 1, 7, 0)", "event(2, 5, 1, 7, 3)")
            .isFloat("trust(1)", 0.5f)
            .does("undo()").isFloat("trust(1)", 0.5f)
            .does("undo()").isFloat("trust(1)", 1f)
            .does("undo()").is("trust(1)", Case.NONE);
    }

    private static void watermarkAndLatest() {
        Case.of(TERMS, RECORDS).does("event(0, 50, 1, 7, 0)", "event(1, 60, 1, 7, 0)")
            .is("count(5)", 55).is("count(6)", 60)
            .does("undo()").is("count(5)", 45).is("count(6)", 50)
            .does("event(2, 55, 1, 7, 0)").is("count(5)", 50).is("count(6)", 55)
            .does("undo()", "undo()").are(-1, "count(5)", "count(6)");
    }

    private static void moved() {
        Case.of(TERMS, RECORDS).does("event(0, 50, 1, 7, 0)", "event(1, 44, 1, 7, 0)", "move(40)")
            .row("paneOf(?, 0)", 0, 0, 0, 0, 0, 0)
            .does("undo()").is("count(11)", 0).is("count(5)", 45)
            .row("paneOf(?, 0)", 1, 1, 1, 1, 0, 0)
            .is("move(5)", 0);
    }

    private static void panes() {
        Case.of(TERMS, RECORDS).settings(10, 0, 3)
            .does("event(0, 8, 1, 7, 0)", "event(1, 10, 0, 1, 0)", "event(2, 9, 2, 5, 1)", "event(3, 7, 4, 2, 0)")
            .row("paneOf(0, ?)", 2, 3, 14, 22, 14, 1, 1)
            .does("undo()").row("paneOf(0, ?)", 2, 2, 12, 6, 14, 1, 1)
            .does("undo()").row("paneOf(0, ?)", 1, 1, 7, 2, Case.NONE, 1, 0).is("standing(0, 1)", 7)
            .does("undo()").row("paneOf(0, ?)", 0, 1, 7, 2, Case.NONE, 0, 0).is("standing(0, 1)", Case.NONE)
            .does("undo()").row("paneOf(0, ?)", 0, 0, 0, 0, Case.NONE, 0, 0);
    }

    private static void newPanes() {
        Case.of(TERMS, RECORDS).does("event(0, 50, 1, 7, 0)", "event(1, 90, 1, 8, 0)")
            .is("nextPane(5)", 9)
            .does("undo()").is("nextPane(5)", Case.NONE).is("mean(9)", Case.NONE)
            .does("event(2, 70, 1, 9, 0)").is("nextPane(5)", 7).is("nextPane(7)", Case.NONE)
            .row("paneOf(7, ?)", 0, 1, 9, 2, Case.NONE, 0, 0);
    }

    private static void closedCases() {
        Case.of(TERMS, RECORDS).settings(10, 0, 3)
            .does("event(0, 10, 0, 1, 0)", "event(1, 9, 2, 5, 1)", "event(2, 14, 0, 1, 0)").is("count(10)", 1)
            .does("undo()").is("count(10)", 0).is("paneOf(0, 0)", 2).is("paneOf(0, 4)", 14)
            .is("event(3, 9, 2, 5, 0)", 0)
            .does("event(4, 14, 0, 1, 0)").is("standing(0, 0)", 2);
    }

    private static void words() {
        Case.of(TERMS, RECORDS).settings(5, 0, 2)
            .does("event(0, 1, 0, 4, 0)", "event(1, 5, 0, 5, 0)", "event(2, 2, 1, 6, 2)", "event(3, 20, 0, 1, 0)")
            .row("wordAt(?, 1)", 0, 0, 0, 1, Case.NONE)
            .does("undo()").row("wordAt(?, 1)", 0, 0, Case.NONE).row("wordAt(?, 0)", 0, 1, Case.NONE)
            .does("undo()").row("wordAt(?, 1)", 0, Case.NONE).is("count(9)", 0)
            .does("event(9, 10, 0, 6, 0)").row("wordAt(1, ?)", 0, 1, 1, 5).is("count(8)", 2)
            .does("undo()").is("count(8)", 1)
            .does("undo()").is("count(8)", 0).is("count(7)", 0).is("wordAt(0, 0)", Case.NONE);
    }

    private static void cabinets() {
        Case.of(TERMS, RECORDS).settings(1, 0, 2)
            .does("event(0, 50, 0, 4, 0)", "event(1, 49, 0, 5, 1)", "event(2, 48, 1, 6, 2)", "event(3, 6, 0, 1, 3)")
            .is("filed(0, 0)", 1).is("filed(1, 0)", 2).is("filed(2, 0)", 3)
            .does("undo()").is("filed(2, 0)", Case.NONE)
            .does("undo()").is("filed(1, 0)", Case.NONE).is("judge(48, 1, 2)", 1)
            .does("undo()").is("filed(0, 0)", Case.NONE)
            .does("event(9, 47, 0, 5, 1)").is("filed(0, 0)", 9).is("filed(0, 1)", Case.NONE);
    }

    private static void played() {
        Case.of(TERMS, RECORDS).types("1,50,0,1;2,9,1,2;3,5,2,3f;1,1,1,1;4,90,3,4;")
            .is("play()", 3)
            .row("count(?)", 4, 3, 1, 1, 1, 85, 90)
            .is("undo()", 0)
            .row("count(?)", 0, 0, 0, 0, 0, -1, -1, 0, 0, 0, 0, 0)
            .is("filed(2, 0)", Case.NONE)
            .is("nextPane(-1)", Case.NONE)
            .is("play()", 3);
    }

    private static void text() {
        Case.of(TERMS, "records everything before it but the text")
            .types("12").does("set(1, 1)").types("345").does("set(1, 2)").types("6")
            .is("undo()", 1).is("count(13)", 1)
            .is("undo()", 0).is("count(13)", 1).is("clearText()", 1);
        Case.of(TERMS, "records everything before it but the text")
            .types("1,2,3,4;").does("play()", "clearText()")
            .is("undo()", 0).is("count(13)", 0).is("play()", 0).is("eventOf(1, 0)", Case.NONE);
    }

    private static void invalidRatherThanNotPossible() {
        Case.of(TERMS, SEVERAL).does("event(0, 50, 0, 4, 0)")
            .are(Case.INVALID, "set(0, 0)", "set(0, 101)")
            .does("move(1)").are(Case.INVALID, "move(0)", "move(101)");
        Case.of(TERMS, SEVERAL).are(Case.INVALID, "move(0)", "move(101)").is("move(1)", Case.NOT_POSSIBLE);
    }

    private static void invalidRatherThanLimitReached() {
        Case full = Case.of("Promise 18, Changes and errors",
                SEVERAL + ", NOT_POSSIBLE rather than LIMIT_REACHED");
        for (int i = 0; i < 80; i++) {
            full.does("type(59)");
        }
        full.are(Case.INVALID, "type(31)", "type(127)", "type(0)").is("type(32)", Case.FULL);
    }

    private static void invalidRatherThanNotFound() {
        Case.of("Promises 5 to 20, Changes and errors",
                SEVERAL + ", NOT_POSSIBLE rather than LIMIT_REACHED, and LIMIT_REACHED rather than NOT_FOUND.")
            .are(Case.INVALID, "paneOf(200, 4)", "paneOf(-1, 4)", "mean(200)", "standing(200, 0)", "standing(0, 2)",
                "nextPane(2000)", "wordAt(-1, 0)", "wordAt(0, 4)", "eventOf(64, 0)", "eventOf(0, 6)", "lateness(2000)",
                "latestExcused(6, 1)", "latestExcused(0, 4)", "filed(3, 0)", "filed(0, 4)", "trust(6)", "fault(2)");
    }

    /** A court in which much has come to pass. */
    private static Case busy() {
        return Case.of(TERMS, NOTHING).settings(10, 0, 3)
            .does("event(0, 8, 1, 7, 0)", "event(1, 20, 0, 1, 0)", "event(2, 19, 2, 5, 1)", "event(3, 1, 2, 5, 0)");
    }

    private static void errorsOfSet() {
        busy().changesNothing(Case.INVALID, "set(-1, 1)", "set(3, 1)", "set(0, 0)", "set(1, 101)", "set(2, -1)")
            .changesNothing(Case.NOT_POSSIBLE, "set(0, 1)", "set(0, 10)")
            .is("undo()", 3).is("eventOf(3, 0)", Case.NONE).is("eventOf(2, 0)", 19);
    }

    private static void errorsOfEvent() {
        busy().changesNothing(Case.INVALID, "event(-1, 50, 0, 0, 0)", "event(9, 2000, 0, 0, 0)",
                "event(9, 50, 6, 0, 0)", "event(9, 50, 0, 101, 0)", "event(9, 50, 0, 0, 4)", "event(0, 50, 0, 0, 4)")
            .is("undo()", 3).is("eventOf(3, 0)", Case.NONE).is("eventOf(2, 0)", 19);
    }

    private static void errorsOfMove() {
        busy().changesNothing(Case.INVALID, "move(0)", "move(101)", "move(-5)")
            .is("move(5)", 0)
            .changesNothing(Case.NOT_POSSIBLE, "move(1)", "move(100)")
            .is("undo()", 3).is("count(5)", 20);
    }

    private static void errorsOfTexts() {
        busy().types("4,30,0,0;5,40,0,0").changesNothing(Case.NOT_POSSIBLE, "play()")
            .changesNothing(Case.INVALID, "type(31)", "type(127)", "fault(2)")
            .is("fault(0)", 9)
            .does("type(59)").is("play()", 2);
        Case full = Case.of("Promise 18, Changes and errors", NOTHING);
        full.types("1,1,1,1;".repeat(10)).changesNothing(Case.FULL, "type(59)", "type(32)")
            .is("fault(0)", Case.NONE)
            .is("clearText()", 80);
    }

    private static void errorsOfUndo() {
        busy().does("undo()", "undo()", "undo()", "undo()").changesNothing(Case.NOT_POSSIBLE, "undo()")
            .does("event(0, 8, 1, 7, 0)").is("undo()", 0);
    }

    private static void errorsOfQuestions() {
        busy().changesNothing(Case.INVALID, "paneOf(200, 0)", "mean(-1)", "standing(0, 2)", "nextPane(-2)",
                "wordAt(-1, 0)", "eventOf(0, 6)", "judge(0, 0, 4)", "lateness(-1)", "latestExcused(0, 0)",
                "filed(0, 4)", "trust(6)", "count(14)")
            .changesNothing(Case.NONE, "paneOf(2, 4)", "mean(50)", "standing(50, 0)", "nextPane(50)", "wordAt(39, 0)",
                "eventOf(60, 0)", "lateness(50)", "filed(2, 0)", "trust(5)", "fault(0)");
    }
}
