/** Promise 4, and what the terms say of the one move. */
public final class MoveTest {
    private static final String MOVE = "Promise 4";
    private static final String TERMS = "Promise 4, One move";

    public static void main(String[] args) {
        ticks();
        movedBefore();
        watermarkAtLeast();
        refused();
        onceInAll();
        moveUndone();
        byTicks();
        toMinusOne();
        endsGreaterThanTheWatermark();
        openAgain();
        withoutEvents();
        withinAPane();
        greatestMove();
        takeWordsBack();
        wordsByNumber();
        wordsIfTold();
        reopenedStays();
        closedStays();
        latestStays();
        shutAnew();
        Case.end();
    }

    private static void ticks() {
        Case.of(MOVE, "`ticks`: 1 to 100").settings(10, 0, 0).does("event(0, 500, 0, 1, 0)")
            .outside("move(?)", 1, 100)
            .does("move(1)").is("count(5)", 499);
        Case.of(MOVE, "`ticks`: 1 to 100").settings(10, 0, 0).does("event(0, 500, 0, 1, 0)")
            .does("move(100)").is("count(5)", 400);
    }

    private static void movedBefore() {
        Case.of(MOVE, "NOT_POSSIBLE if it was moved before").settings(10, 0, 0)
            .does("event(0, 50, 0, 1, 0)", "move(1)")
            .changesNothing(Case.NOT_POSSIBLE, "move(1)", "move(100)")
            .does("event(1, 90, 0, 1, 0)")
            .is("move(1)", Case.NOT_POSSIBLE);
    }

    private static void watermarkAtLeast() {
        Case.of(MOVE, "or is -1").settings(10, 5, 0)
            .changesNothing(Case.NOT_POSSIBLE, "move(1)", "move(100)")
            .does("event(0, 4, 0, 1, 0)")
            .is("count(5)", -1)
            .is("move(1)", Case.NOT_POSSIBLE)
            .is("count(11)", 0)
            .does("event(1, 5, 0, 1, 0)")
            .is("count(5)", 0)
            .is("move(1)", 0)
            .is("count(5)", -1)
            .is("count(11)", 1);
    }

    private static void refused() {
        Case.of(MOVE, "INVALID_ARGUMENT if ticks is out of range").settings(10, 0, 0)
            .does("event(0, 50, 0, 1, 0)")
            .changesNothing(Case.INVALID, "move(0)", "move(-1)", "move(101)")
            .is("move(10)", 1)
            .is("move(0)", Case.INVALID);
    }

    private static void onceInAll() {
        Case.of(TERMS, "Once in all, the watermark can be moved back by some ticks").settings(10, 0, 0)
            .does("event(0, 50, 0, 1, 0)")
            .is("count(11)", 0)
            .is("move(10)", 1)
            .is("count(11)", 1)
            .is("move(10)", Case.NOT_POSSIBLE)
            .is("count(5)", 40);
    }

    private static void moveUndone() {
        Case.of(TERMS, "Once in all").settings(10, 0, 0)
            .does("event(0, 50, 0, 1, 0)", "move(10)", "undo()")
            .is("count(11)", 0)
            .is("move(20)", 2)
            .is("count(5)", 30);
    }

    private static void byTicks() {
        Case.of(TERMS, "moved back by some ticks").settings(10, 7, 0)
            .does("event(0, 50, 0, 1, 0)", "move(6)")
            .is("count(5)", 37);
    }

    private static void toMinusOne() {
        Case.of(TERMS, "(to -1 at least)").settings(10, 0, 0)
            .does("event(0, 50, 0, 1, 0)").is("move(50)", 5).is("count(5)", 0);
        Case.of(TERMS, "(to -1 at least)").settings(10, 0, 0)
            .does("event(0, 50, 0, 1, 0)").is("move(51)", 5).is("count(5)", -1);
        Case.of(TERMS, "(to -1 at least)").settings(10, 0, 0)
            .does("event(0, 50, 0, 1, 0)").is("move(52)", 5).is("count(5)", -1)
            .does("event(1, 51, 0, 1, 0)").is("count(5)", 51);
        Case.of(TERMS, "(to -1 at least)").settings(10, 0, 0)
            .does("event(0, 50, 0, 1, 0)").is("move(100)", 5).is("count(5)", -1);
    }

    private static void endsGreaterThanTheWatermark() {
        String sentence = "whose ends are greater than the watermark then";
        Case.of(TERMS, sentence).settings(10, 0, 0)
            .does("event(0, 40, 0, 1, 0)").is("move(10)", 1)
            .row("paneOf(?, 0)", 1, 1, 1, 0, 0);
        Case.of(TERMS, sentence).settings(10, 0, 0)
            .does("event(0, 40, 0, 1, 0)").is("move(11)", 2)
            .row("paneOf(?, 0)", 1, 1, 0, 0, 0);
    }

    private static void openAgain() {
        Case.of(TERMS, "Then all panes that are shut, and whose ends are greater than the watermark then, "
                + "are open again").settings(10, 0, 0)
            .does("event(0, 40, 0, 1, 0)")
            .is("event(1, 30, 0, 1, 0)", 2)
            .is("event(2, 20, 0, 1, 0)", 2)
            .is("move(10)", 1)
            .is("event(3, 30, 0, 1, 0)", 0)
            .is("event(4, 20, 0, 1, 0)", 2)
            .is("lateness(20)", 1)
            .is("lateness(30)", Case.NONE);
        Case.of(TERMS, "are open again").settings(10, 0, 9)
            .does("event(0, 30, 0, 1, 0)", "event(1, 29, 0, 1, 1)", "move(20)")
            // Behind the pane of this first event stands one that is reopened.
            .is("event(2, 15, 0, 1, 0)", 0)
            .row("paneOf(?, 0)", 1, 0, 2, 0)
            .row("paneOf(1, ?)", 0, 1, 1, 1, Case.NONE, 0, 0);
    }

    private static void withoutEvents() {
        Case.of(MOVE, "Returns how many panes (those without events, too) are open again by it")
            .settings(1, 0, 0)
            .does("event(0, 500, 0, 1, 0)")
            .is("move(100)", 100);
        Case.of(MOVE, "Returns how many panes (those without events, too) are open again by it")
            .settings(100, 0, 0)
            .does("event(0, 99, 0, 1, 0)", "event(1, 150, 0, 1, 0)")
            .is("move(51)", 1);
    }

    private static void withinAPane() {
        Case.of(MOVE, "Returns how many panes").settings(10, 0, 0)
            .does("event(0, 49, 0, 1, 0)")
            .is("move(9)", 0)
            .is("count(5)", 40)
            .is("count(11)", 1)
            .row("paneOf(?, 0)", 1, 1, 1, 1, 0);
    }

    private static void greatestMove() {
        Case.of(MOVE, "Returns how many panes").settings(1, 0, 0)
            .does("event(0, 1999, 0, 1, 0)")
            .is("move(100)", 100)
            .is("paneOf(1898, 0)", 1)
            .is("paneOf(1899, 0)", 0)
            .is("paneOf(1999, 0)", 0);
    }

    private static void takeWordsBack() {
        Case.of(TERMS, "and take their words back").settings(10, 0, 0)
            .does("event(0, 15, 0, 6, 0)", "event(1, 16, 0, -9, 0)", "event(2, 20, 0, 1, 0)")
            .is("standing(1, 1)", -3)
            .is("move(1)", 1)
            .is("standing(1, 1)", Case.NONE)
            .row("wordAt(1, ?)", 1, 1, 2, -3)
            .is("count(9)", 1)
            .is("paneOf(1, 6)", 1);
    }

    private static void wordsByNumber() {
        Case.of(TERMS, "take their words back, by their numbers").settings(10, 50, 0)
            .does("event(0, 35, 0, 3, 0)", "event(1, 15, 0, 1, 0)", "event(2, 25, 0, 2, 0)",
                "event(3, 90, 0, 0, 0)")
            .row("wordAt(?, 1)", 1, 2, 3, Case.NONE)
            .is("move(25)", 3)
            .row("wordAt(?, 0)", 0, 0, 0, 1, 1, 1, Case.NONE)
            .row("wordAt(?, 1)", 1, 2, 3, 1, 2, 3, Case.NONE);
    }

    private static void wordsIfTold() {
        Case.of(TERMS, "if they have told one").settings(10, 0, 0)
            .does("event(0, 15, 0, 6, 0)", "event(1, 40, 0, 1, 0)")
            .is("event(2, 25, 0, 6, 0)", 2)
            .is("move(40)", 4)
            .is("count(9)", 1)
            .is("count(7)", 2)
            .is("paneOf(2, 6)", 0);
    }

    private static void reopenedStays() {
        Case.of(TERMS, "(Panes that are reopened, and closed cases, stay as they are.)").settings(10, 0, 9)
            .does("event(0, 15, 0, 6, 0)", "event(1, 20, 0, 1, 0)", "event(2, 16, 0, 3, 1)")
            .is("move(20)", 1)
            .row("paneOf(1, ?)", 2, 2, 9, 1, 30, 1, 1)
            .is("count(9)", 1);
    }

    private static void closedStays() {
        Case.of(TERMS, "(Panes that are reopened, and closed cases, stay as they are.)").settings(10, 0, 0)
            .does("event(0, 15, 0, 6, 0)", "event(1, 20, 0, 1, 0)", "event(2, 16, 0, 3, 1)", "event(3, 21, 0, 1, 0)")
            .is("move(20)", 1)
            .row("paneOf(1, ?)", 3, 2, 9, 1, Case.NONE, 2, 1)
            .is("standing(1, 1)", 9)
            .is("count(10)", 1)
            .is("event(4, 15, 0, 1, 0)", 3);
    }

    private static void latestStays() {
        Case.of(TERMS, "the watermark can be moved back").settings(10, 0, 0)
            .does("event(0, 40, 0, 1, 0)", "move(15)")
            .is("count(6)", 40);
    }

    private static void shutAnew() {
        Case.of(TERMS, "are open again").settings(10, 0, 0)
            .does("event(0, 15, 0, 6, 0)", "event(1, 20, 0, 1, 0)", "move(5)")
            .is("event(2, 12, 0, 1, 0)", 0)
            .does("event(3, 21, 0, 1, 0)")
            .is("paneOf(1, 0)", 1)
            .is("standing(1, 0)", 2)
            .is("standing(1, 1)", 7)
            .row("wordAt(?, 0)", 0, 1, 0, Case.NONE);
    }
}
