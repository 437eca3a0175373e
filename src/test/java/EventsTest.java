/** Promise 3, and what the terms say of panes, the watermark and events. */
public final class EventsTest {
    private static final String EVENT = "Promise 3";
    private static final String PANES = "Promise 3, Panes and the watermark";
    private static final String EVENTS = "Promise 3, Events";

    public static void main(String[] args) {
        arguments();
        refused();
        answerInTime();
        answerExcused();
        answerTurnedAway();
        answerCaseClosed();
        answerDouble();
        panes();
        paneNumbers();
        paneEnds();
        latest();
        latestOfDouble();
        watermark();
        watermarkNotGreater();
        watermarkAndEqualTimes();
        watermarkMovedBack();
        whenItBecomesGreater();
        open();
        reopened();
        closedForGood();
        wordsByNumber();
        wordsOfPanesWithEvents();
        doubles();
        doublesDoNothingMore();
        idAfterUndo();
        countsInReopened();
        late();
        caseClosed();
        firstJudged();
        lateness();
        allIds();
        Case.end();
    }

    private static void arguments() {
        Case.of(EVENT, "`id`: 0 to 63").outside("event(?, 5, 0, 1, 0)", 0, 63)
            .are(0, "event(0, 5, 0, 1, 0)", "event(63, 5, 0, 1, 0)");
        Case.of(EVENT, "`time`: 0 to 1999").outside("event(0, ?, 0, 1, 0)", 0, 1999)
            .are(0, "event(0, 0, 0, 1, 0)", "event(1, 1999, 0, 1, 0)");
        Case.of(EVENT, "`key`: 0 to 5").outside("event(0, 5, ?, 1, 0)", 0, 5)
            .are(0, "event(0, 5, 0, 1, 0)", "event(1, 5, 5, 1, 0)");
        Case.of(EVENT, "`amount`: -100 to 100").outside("event(0, 5, 0, ?, 0)", -100, 100)
            .are(0, "event(0, 5, 0, -100, 0)", "event(1, 5, 0, 100, 0)");
        Case.of(EVENT, "`excuse`: 0 to 3").outside("event(0, 5, 0, 1, ?)", 0, 3)
            .are(0, "event(0, 5, 0, 1, 0)", "event(1, 5, 0, 1, 3)");
        Case.of(EVENTS, "a time, a key (0 to 5), an amount (-100 to 100), and perhaps an excuse").settings(10, 0, 0)
            .does("event(0, 1999, 5, -100, 3)", "event(1, 1998, 0, 100, 0)")
            .row("eventOf(0, ?)", 1999, 5, -100, 3, 0, 199)
            .row("eventOf(1, ?)", 1998, 0, 100, 0, 0, 199)
            .are(Case.INVALID, "event(2, 1999, 6, 100, 0)", "event(2, 1999, 0, 101, 0)", "event(2, 1999, 0, 0, 4)");
        Case.of(PANES, "Times are 0 to 1999.").settings(1, 0, 0)
            .are(Case.INVALID, "event(0, -1, 0, 1, 0)", "event(0, 2000, 0, 1, 0)")
            .are(0, "event(0, 0, 0, 1, 0)", "event(1, 1999, 0, 1, 0)")
            .is("count(6)", 1999);
    }

    private static void refused() {
        Case.of(EVENT, "INVALID_ARGUMENT if an argument is out of range")
            .does("event(1, 5, 0, 1, 0)")
            .changesNothing(Case.INVALID, "event(64, 9, 0, 1, 0)", "event(2, 2000, 0, 1, 0)",
                "event(2, 9, 6, 1, 0)", "event(2, 9, 0, 101, 0)", "event(2, 9, 0, 1, 4)",
                "event(1, 2000, 0, 1, 0)", "event(1, 9, -1, 1, 0)", "event(1, 9, 0, -101, 0)")
            .is("event(2, 9, 0, 1, 0)", 0);
    }

    private static void answerInTime() {
        Case.of(EVENT, "Returns 0 if it counts and was not late").settings(10, 0, 5)
            .is("event(0, 10, 0, 1, 0)", 0)
            .does("event(1, 9, 0, 1, 1)")
            .is("event(2, 8, 0, 1, 0)", 0)
            .is("event(3, 7, 0, 1, 2)", 0)
            .is("filed(1, 0)", Case.NONE)
            .is("count(2)", 1);
    }

    private static void answerExcused() {
        Case.of(EVENT, "1 if it was late and is excused").settings(10, 0, 5)
            .does("event(0, 10, 0, 1, 0)")
            .is("event(1, 9, 0, 1, 1)", 1)
            .is("count(1)", 2);
    }

    private static void answerTurnedAway() {
        Case.of(EVENT, "2 if it was late and is turned away").settings(10, 0, 5)
            .does("event(0, 10, 0, 1, 0)")
            .is("event(1, 9, 0, 1, 0)", 2)
            .is("count(1)", 1);
    }

    private static void answerCaseClosed() {
        Case.of(EVENT, "3 if it is turned away as the case is closed").settings(10, 0, 0)
            .does("event(0, 10, 0, 1, 0)", "event(1, 9, 0, 1, 1)", "event(2, 11, 0, 1, 0)")
            .are(3, "event(3, 9, 0, 1, 0)", "event(4, 9, 0, 1, 1)", "event(5, 5, 0, 1, 3)");
    }

    private static void answerDouble() {
        Case.of(EVENT, "4 if it is double").settings(10, 0, 0)
            .does("event(0, 10, 0, 1, 0)")
            .are(4, "event(0, 10, 0, 1, 0)", "event(0, 1999, 5, -100, 3)", "event(0, 0, 0, 1, 0)");
    }

    private static void panes() {
        String sentence = "the pane p has the times from p * size on to (p + 1) * size - 1";
        Case.of(PANES, sentence).settings(10, 100, 0)
            .does("event(0, 0, 0, 1, 0)", "event(1, 9, 0, 1, 0)", "event(2, 10, 0, 1, 0)",
                "event(3, 19, 0, 1, 0)", "event(4, 1990, 0, 1, 0)", "event(5, 1999, 0, 1, 0)")
            .are(0, "eventOf(0, 5)", "eventOf(1, 5)")
            .are(1, "eventOf(2, 5)", "eventOf(3, 5)")
            .are(199, "eventOf(4, 5)", "eventOf(5, 5)")
            .are(2, "paneOf(0, 1)", "paneOf(1, 1)", "paneOf(199, 1)");
        Case.of(PANES, sentence).settings(7, 100, 0)
            .does("event(0, 1994, 0, 1, 0)", "event(1, 1995, 0, 1, 0)", "event(2, 1999, 0, 1, 0)")
            .is("eventOf(0, 5)", 284)
            .are(285, "eventOf(1, 5)", "eventOf(2, 5)");
        Case.of(PANES, sentence).settings(1, 0, 0)
            .does("event(0, 0, 0, 1, 0)", "event(1, 1, 0, 1, 0)", "event(2, 1999, 0, 1, 0)")
            .is("eventOf(0, 5)", 0)
            .is("eventOf(1, 5)", 1)
            .is("eventOf(2, 5)", 1999);
        Case.of(PANES, sentence).settings(100, 0, 0)
            .does("event(0, 99, 0, 1, 0)", "event(1, 100, 0, 1, 0)", "event(2, 1999, 0, 1, 0)")
            .is("eventOf(0, 5)", 0)
            .is("eventOf(1, 5)", 1)
            .is("eventOf(2, 5)", 19);
    }

    private static void paneNumbers() {
        Case.of(PANES, "A pane has a number, from 0 on").settings(100, 0, 0)
            .does("event(0, 0, 0, 1, 0)").is("eventOf(0, 5)", 0).is("nextPane(-1)", 0).is("paneOf(0, 1)", 1)
            .does("event(1, 99, 0, 1, 0)").is("eventOf(1, 5)", 0).is("paneOf(0, 1)", 2)
            .is("paneOf(-1, 1)", Case.INVALID);
    }

    private static void paneEnds() {
        String sentence = "its end is (p + 1) * size";
        Case.of(PANES, sentence).settings(7, 0, 0)
            .does("event(0, 6, 0, 1, 0)").is("paneOf(0, 0)", 0)
            .does("event(1, 7, 0, 1, 0)").row("paneOf(?, 0)", 1, 0)
            .does("event(2, 13, 0, 1, 0)").row("paneOf(?, 0)", 1, 0)
            .does("event(3, 14, 0, 1, 0)").row("paneOf(?, 0)", 1, 1, 0).is("lateness(13)", 1).is("lateness(0)", 8);
        // The end of the last pane is no time itself: it is never shut.
        Case.of(PANES, sentence).settings(7, 0, 0)
            .does("event(0, 1999, 0, 1, 0)").is("paneOf(285, 0)", 0).is("paneOf(284, 0)", 1);
        Case.of(PANES, sentence).settings(1, 0, 0)
            .does("event(0, 1999, 0, 1, 0)").is("paneOf(1999, 0)", 0).is("paneOf(1998, 0)", 1);
    }

    private static void latest() {
        Case.of(PANES, "The latest time is the greatest time of all events so far")
            .does("event(0, 50, 0, 1, 0)").is("count(6)", 50)
            .does("event(1, 49, 0, 1, 0)").is("count(6)", 50)
            .does("event(2, 0, 0, 1, 0)").is("count(6)", 50)
            .does("event(3, 51, 0, 1, 0)").is("count(6)", 51);
        Case.of(PANES, "The latest time is the greatest time of all events so far")
            .does("event(0, 0, 0, 1, 0)").is("count(6)", 0);
    }

    private static void latestOfDouble() {
        Case.of(PANES, "so far that were not double")
            .does("event(0, 50, 0, 1, 0)")
            .is("event(0, 51, 0, 1, 0)", 4)
            .is("count(6)", 50)
            .is("count(5)", 45);
    }

    private static void watermark() {
        Case.of(PANES, "the watermark becomes the latest time minus the lag")
            .does("event(0, 3, 0, 1, 0)").is("count(5)", -1)
            .does("event(1, 4, 0, 1, 0)").is("count(5)", -1)
            .does("event(2, 5, 0, 1, 0)").is("count(5)", 0)
            .does("event(3, 6, 0, 1, 0)").is("count(5)", 1)
            .does("event(4, 1999, 0, 1, 0)").is("count(5)", 1994);
        Case.of(PANES, "the watermark becomes the latest time minus the lag").settings(10, 0, 0)
            .does("event(0, 0, 0, 1, 0)").is("count(5)", 0);
        Case.of(PANES, "the watermark becomes the latest time minus the lag").settings(10, 100, 0)
            .does("event(0, 99, 0, 1, 0)").is("count(5)", -1)
            .does("event(1, 100, 0, 1, 0)").is("count(5)", 0);
    }

    private static void watermarkNotGreater() {
        Case.of(PANES, "if this is greater than the watermark is").settings(10, 0, 0)
            .does("event(0, 0, 0, 1, 0)", "set(1, 100)", "event(1, 50, 0, 1, 0)")
            .is("count(5)", 0)
            .does("event(2, 100, 0, 1, 0)").is("count(5)", 0)
            .does("event(3, 101, 0, 1, 0)").is("count(5)", 1);
    }

    private static void watermarkAndEqualTimes() {
        Case.of(PANES, "When an event makes the latest time greater").settings(10, 10, 0)
            .does("event(0, 30, 0, 1, 0)", "set(1, 0)", "event(1, 30, 0, 1, 0)")
            .is("count(5)", 20)
            .does("event(2, 29, 0, 1, 0)").is("count(5)", 20)
            .does("event(3, 31, 0, 1, 0)").is("count(5)", 31);
    }

    private static void watermarkMovedBack() {
        Case.of(PANES, "When an event makes the latest time greater").settings(10, 0, 0)
            .does("event(0, 30, 0, 1, 0)", "move(20)", "event(1, 30, 0, 1, 0)", "event(2, 20, 0, 1, 0)")
            .is("count(5)", 10)
            .does("event(3, 31, 0, 1, 0)").is("count(5)", 31);
    }

    private static void whenItBecomesGreater() {
        Case.of(PANES, "When the watermark becomes greater, panes are shut and cases are closed by it")
            .settings(10, 0, 0)
            .does("event(0, 5, 0, 1, 0)", "event(1, 10, 0, 1, 0)").is("count(7)", 1)
            // The watermark stays: the word is not told once more.
            .does("event(2, 10, 0, 1, 0)", "event(3, 10, 0, 1, 0)").is("count(7)", 1)
            .does("event(4, 11, 0, 1, 0)", "event(5, 19, 0, 1, 0)").is("count(7)", 1)
            .does("event(6, 20, 0, 1, 0)").is("count(7)", 2);
    }

    private static void open() {
        Case.of(PANES, "A pane is open, if the watermark is less than its end; otherwise it is shut.")
            .settings(10, 0, 0)
            .does("event(0, 19, 0, 1, 0)").is("paneOf(1, 0)", 0).is("judge(10, 0, 0)", 0)
            .does("event(1, 20, 0, 1, 0)").is("paneOf(1, 0)", 1).is("judge(19, 0, 0)", 2)
            .is("paneOf(2, 0)", 0);
    }

    private static void reopened() {
        Case.of(PANES, "But a pane that was reopened is reopened, until its case is closed")
            .settings(10, 0, 4)
            .does("event(0, 10, 0, 1, 0)", "event(1, 5, 0, 1, 1)").is("paneOf(0, 0)", 2)
            .does("event(2, 14, 0, 1, 0)").is("paneOf(0, 0)", 2).is("judge(5, 0, 0)", 0)
            .does("event(3, 15, 0, 1, 0)").is("paneOf(0, 0)", 3);
    }

    private static void closedForGood() {
        Case.of(PANES, "then it is a closed case for good").settings(10, 0, 0)
            .does("event(0, 10, 0, 1, 0)", "event(1, 5, 0, 1, 1)", "event(2, 11, 0, 1, 0)", "move(11)")
            .is("count(5)", 0)
            .is("paneOf(0, 0)", 3)
            .is("event(3, 5, 0, 1, 3)", 3)
            .does("event(4, 1999, 0, 1, 0)")
            .is("paneOf(0, 0)", 3)
            .is("paneOf(0, 5)", 1);
    }

    private static void wordsByNumber() {
        Case.of(PANES, "panes are shut and cases are closed by it, in the order of their numbers")
            .settings(5, 0, 1)
            .does("event(0, 14, 0, 14, 0)", "event(1, 19, 0, 19, 0)", "event(2, 6, 0, 6, 3)")
            .is("event(3, 12, 0, 12, 3)", 1)
            .does("event(4, 18, 0, 18, 0)", "event(5, 21, 0, 21, 0)", "event(6, 40, 0, 40, 0)")
            // Pane 2 tells, takes back; by 21 cases 1 and 2 are closed and pane 3 is shut; then 4.
            .row("wordAt(?, 0)", 0, 1, 0, 0, 0, 0, Case.NONE)
            .row("wordAt(?, 1)", 2, 2, 1, 2, 3, 4, Case.NONE)
            .row("wordAt(?, 3)", 14, 14, 6, 26, 37, 21, Case.NONE);
        Case.of(PANES, "in the order of their numbers").settings(5, 0, 100)
            .does("event(0, 10, 0, 1, 0)", "event(1, 9, 0, 2, 1)", "event(2, 4, 0, 3, 1)")
            .does("event(3, 109, 0, 4, 0)", "event(4, 111, 0, 5, 0)")
            .row("wordAt(?, 1)", 2, 0, 1, 21, Case.NONE);
        Case.of(PANES, "in the order of their numbers").settings(5, 0, 1)
            .does("event(0, 5, 0, 1, 0)", "event(1, 10, 0, 2, 0)", "event(2, 20, 0, 3, 0)")
            .does("event(3, 19, 0, 4, 1)", "move(15)", "event(4, 22, 0, 5, 0)")
            // Here the panes that are shut stand ahead of the case that is closed.
            .row("wordAt(?, 0)", 0, 0, 1, 1, 0, 0, 0, Case.NONE)
            .row("wordAt(?, 1)", 1, 2, 1, 2, 1, 2, 3, Case.NONE);
    }

    private static void wordsOfPanesWithEvents() {
        Case.of(PANES, "those in which events count tell their words then").settings(10, 0, 0)
            .does("event(0, 5, 0, 1, 0)", "event(1, 100, 0, 1, 0)")
            .is("event(2, 50, 0, 1, 0)", 2)
            .does("event(3, 200, 0, 1, 0)")
            .is("count(7)", 2)
            .row("wordAt(?, 1)", 0, 10, Case.NONE);
    }

    private static void doubles() {
        Case.of(EVENTS, "An event whose id was that of an event that counts or was turned away before is double")
            .settings(10, 0, 0)
            .is("event(0, 10, 0, 1, 0)", 0)
            .is("event(1, 9, 0, 1, 1)", 1)
            .is("event(2, 11, 0, 1, 0)", 0)
            .is("event(3, 9, 0, 1, 0)", 3)
            .is("event(4, 20, 0, 1, 0)", 0)
            .is("event(5, 19, 0, 1, 0)", 2)
            .are(4, "event(0, 20, 0, 1, 0)", "event(1, 20, 0, 1, 0)", "event(3, 20, 0, 1, 0)",
                "event(5, 20, 0, 1, 0)", "event(5, 20, 0, 1, 0)")
            .is("count(4)", 5);
    }

    private static void doublesDoNothingMore() {
        Case.of(EVENTS, "is double, and does nothing more").settings(10, 0, 0)
            .does("event(0, 10, 0, 1, 0)")
            .is("event(0, 999, 4, 7, 1)", 4)
            .is("event(0, 9, 3, 7, 2)", 4)
            .row("count(?)", 1, 1, 0, 0, 2, 10, 10, 0, 0, 0, 0, 0)
            .row("eventOf(0, ?)", 10, 0, 1, 0, 0, 1)
            .are(0, "paneOf(99, 1)", "paneOf(0, 1)")
            .are(Case.NONE, "trust(3)", "trust(4)", "filed(0, 0)", "filed(1, 0)")
            .is("paneOf(0, 0)", 1)
            .is("judge(9, 3, 2)", 1);
    }

    private static void idAfterUndo() {
        Case.of(EVENTS, "An event whose id was that of an event that counts or was turned away before is double")
            .does("event(0, 10, 0, 1, 0)", "undo()")
            .is("event(0, 12, 1, 2, 0)", 0)
            .is("eventOf(0, 0)", 12)
            .is("count(4)", 0);
    }

    private static void countsInReopened() {
        Case.of(EVENTS, "An event counts in its pane if this pane is open or reopened.").settings(10, 0, 9)
            .does("event(0, 5, 0, 3, 0)", "event(1, 6, 0, 4, 0)").is("paneOf(0, 1)", 2)
            .does("event(2, 10, 0, 1, 0)", "event(3, 0, 0, 5, 1)").is("paneOf(0, 1)", 3)
            .is("event(4, 9, 5, 6, 0)", 0)
            .is("paneOf(0, 1)", 4)
            .is("paneOf(0, 2)", 18);
    }

    private static void late() {
        Case.of(EVENTS, "If the pane is shut, the event is late, and is judged by its excuse")
            .settings(10, 0, 9)
            .does("event(0, 10, 0, 1, 0)")
            .is("event(1, 9, 0, 1, 0)", 2)
            .is("paneOf(0, 1)", 0)
            .is("event(2, 9, 0, 1, 1)", 1)
            .is("paneOf(0, 1)", 1);
    }

    private static void caseClosed() {
        Case.of(EVENTS, "if its case is closed, it is turned away").settings(10, 0, 0)
            .does("event(0, 10, 0, 1, 0)", "event(1, 9, 0, 7, 1)", "event(2, 11, 0, 1, 0)")
            .is("event(3, 9, 0, 5, 1)", 3)
            .is("event(4, 5, 0, 5, 3)", 3)
            .is("event(5, 5, 1, 5, 2)", 3)
            .is("paneOf(0, 2)", 7)
            .is("count(3)", 3)
            .are(Case.NONE, "filed(0, 1)", "filed(1, 0)", "filed(2, 0)");
    }

    private static void firstJudged() {
        Case.of(EVENTS, "First an event is judged, and counts or is turned away; then the latest time "
                + "and the watermark change by it.").settings(10, 0, 0)
            .does("event(0, 9, 0, 1, 0)")
            .is("event(1, 1999, 0, 2, 0)", 0)
            .is("count(5)", 1999)
            .is("standing(0, 0)", 1)
            .is("standing(199, 0)", Case.NONE)
            .is("paneOf(199, 1)", 1);
    }

    private static void lateness() {
        Case.of(EVENTS, "How late an event is is the watermark minus the end of its pane, plus 1.")
            .settings(10, 0, 0)
            .does("event(0, 10, 0, 1, 0)")
            .are(1, "lateness(0)", "lateness(9)")
            .does("event(1, 39, 0, 1, 0)")
            .are(30, "lateness(0)", "lateness(9)")
            .are(10, "lateness(20)", "lateness(29)");
    }

    private static void allIds() {
        Case all = Case.of(EVENTS, "An event has an id (0 to 63)").settings(1, 0, 0);
        for (int id = 0; id < 64; id++) {
            all.is("event(" + id + ", " + (3 * id) + ", " + id % 6 + ", " + (id - 30) + ", 0)", 0);
        }
        all.is("count(0)", 64).is("count(8)", 63).is("count(7)", 40);
        for (int id = 0; id < 64; id++) {
            all.is("eventOf(" + id + ", 0)", 3 * id).is("eventOf(" + id + ", 2)", id - 30);
            all.is("paneOf(" + 3 * id + ", 2)", id - 30);
        }
        all.is("event(63, 1999, 0, 1, 0)", 4);
    }
}
