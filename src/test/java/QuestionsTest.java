/** Promises 10 to 15: questions about events and excuses. */
public final class QuestionsTest {
    private static final String EVENT_OF = "Promise 10";
    private static final String JUDGE = "Promise 11";
    private static final String LATENESS = "Promise 12";
    private static final String LATEST = "Promise 13";
    private static final String FILED = "Promise 14";
    private static final String TRUST = "Promise 15";
    private static final String TERMS_TRUST = "Promise 15, Means and trust";

    public static void main(String[] args) {
        eventArguments();
        eventNone();
        eventNumbers();
        eventReturned();
        eventPane();
        judgeArguments();
        judgeAnswers();
        judgeNewId();
        judgeFull();
        judgeChangesNothing();
        latenessArguments();
        latenessOfShut();
        latenessNotShut();
        latenessOfTurnedAway();
        latestArguments();
        latestOfNet();
        latestOfIllness();
        latestOfFeast();
        latestThatIsLate();
        latestWhateverIsFull();
        latestNone();
        filedArguments();
        filedPlaces();
        filedEmpty();
        trustArguments();
        trustNone();
        trustOfDoubles();
        trustWhole();
        trustHalf();
        trustTurnedAway();
        trustInFloats();
        Case.end();
    }

    private static void eventArguments() {
        Case.of(EVENT_OF, "`id`: 0 to 63").outside("eventOf(?, 0)", 0, 63)
            .are(Case.NONE, "eventOf(0, 0)", "eventOf(63, 0)");
        Case.of(EVENT_OF, "`what`: 0: its time; 1: its key; 2: its amount; 3: its excuse")
            .outside("eventOf(0, ?)", 0, 5)
            .are(Case.NONE, "eventOf(0, 0)", "eventOf(0, 5)");
        Case.of(EVENT_OF, "INVALID_ARGUMENT if an argument is out of range").does("event(0, 5, 0, 1, 0)")
            .are(Case.INVALID, "eventOf(0, 6)", "eventOf(0, -1)", "eventOf(9, 6)", "eventOf(64, -1)");
    }

    private static void eventNone() {
        Case.of(EVENT_OF, "NOT_FOUND if there was none")
            .does("event(3, 0, 0, 0, 0)")
            .is("event(4, 0, 0, 101, 0)", Case.INVALID)
            .are(Case.NONE, "eventOf(0, 0)", "eventOf(2, 5)", "eventOf(4, 2)", "eventOf(63, 4)")
            .row("eventOf(3, ?)", 0, 0, 0, 0, 0, 0)
            .does("undo()").is("eventOf(3, 0)", Case.NONE);
    }

    private static void eventNumbers() {
        Case.of(EVENT_OF, "Returns something of the event with an id.")
            .does("event(0, 1999, 5, -100, 3)", "event(63, 1998, 4, 100, 2)", "event(0, 7, 1, 1, 1)")
            .row("eventOf(0, ?)", 1999, 5, -100, 3, 0, 199)
            .row("eventOf(63, ?)", 1998, 4, 100, 2, 0, 199);
    }

    private static void eventReturned() {
        Case.of(EVENT_OF, "4: what event() has returned for it").settings(7, 0, 0)
            .does("event(0, 50, 3, -8, 2)", "event(63, 48, 5, 100, 1)", "event(7, 41, 4, 9, 0)",
                "event(0, 60, 1, 1, 1)", "event(8, 51, 1, 0, 0)", "event(9, 42, 1, 0, 3)")
            .row("eventOf(0, ?)", 50, 3, -8, 2, 0, 7)
            .row("eventOf(63, ?)", 48, 5, 100, 1, 1, 6)
            .row("eventOf(7, ?)", 41, 4, 9, 0, 2, 5)
            .row("eventOf(9, ?)", 42, 1, 0, 3, 3, 6)
            .does("move(9)")
            .is("eventOf(7, 4)", 2);
    }

    private static void eventPane() {
        Case.of(EVENT_OF, "5: its pane").settings(3, 100, 0)
            .does("event(0, 0, 0, 0, 0)", "event(1, 2, 0, 0, 0)", "event(2, 3, 0, 0, 0)", "event(3, 1999, 0, 0, 0)")
            .row("eventOf(?, 5)", 0, 0, 1, 666, Case.NONE);
    }

    private static void judgeArguments() {
        Case.of(JUDGE, "`time`: 0 to 1999").outside("judge(?, 0, 0)", 0, 1999)
            .are(0, "judge(0, 0, 0)", "judge(1999, 0, 0)");
        Case.of(JUDGE, "`key`: 0 to 5").outside("judge(5, ?, 0)", 0, 5)
            .are(0, "judge(5, 0, 0)", "judge(5, 5, 0)");
        Case.of(JUDGE, "`excuse`: 0 to 3").outside("judge(5, 0, ?)", 0, 3)
            .are(0, "judge(5, 0, 0)", "judge(5, 0, 3)");
        Case.of(JUDGE, "INVALID_ARGUMENT if an argument is out of range").does("event(0, 50, 0, 0, 0)")
            .are(Case.INVALID, "judge(2000, 6, 4)", "judge(-1, 0, 0)", "judge(9, -1, 0)", "judge(9, 0, -1)",
                "judge(9, 0, 4)");
    }

    private static void judgeAnswers() {
        Case.of(JUDGE, "Returns 0 to 3").settings(10, 0, 0)
            .does("event(0, 50, 0, 0, 0)").is("judge(50, 0, 0)", 0)
            .is("judge(49, 0, 0)", 2).is("judge(49, 0, 1)", 1).is("judge(49, 0, 2)", 1)
            .is("judge(39, 0, 1)", 2).is("judge(39, 0, 2)", 1).is("judge(39, 0, 3)", 2)
            .is("judge(19, 0, 2)", 1).is("judge(9, 0, 2)", 2).is("judge(5, 0, 3)", 1)
            .does("event(1, 49, 0, 0, 1)").is("judge(48, 0, 0)", 0)
            .does("event(2, 51, 0, 0, 0)").is("judge(48, 0, 1)", 3).is("judge(47, 0, 3)", 3)
            .does("event(3, 39, 0, 0, 2)").is("judge(29, 0, 2)", 2).is("judge(29, 1, 2)", 1);
    }

    private static void judgeNewId() {
        Case many = Case.of(JUDGE, "for an event with an id that was not there before").settings(10, 0, 0);
        for (int id = 0; id < 64; id++) {
            many.does("event(" + id + ", 50, 0, 0, 0)");
        }
        many.is("judge(50, 0, 0)", 0).is("judge(49, 0, 0)", 2).is("judge(49, 0, 1)", 1);
    }

    private static void judgeFull() {
        Case.of(JUDGE, "Tells what event() would return now").settings(1, 0, 100)
            .does("event(0, 50, 0, 0, 0)", "event(1, 5, 0, 0, 3)", "event(2, 6, 0, 0, 3)", "event(3, 12, 0, 0, 3)")
            .is("judge(13, 0, 3)", 1)
            .does("event(4, 13, 0, 0, 3)")
            .is("judge(19, 0, 3)", 2)
            .is("judge(49, 0, 1)", 1)
            .does("event(5, 49, 0, 0, 1)", "event(6, 48, 0, 0, 1)", "event(7, 47, 0, 0, 1)")
            .is("judge(46, 0, 1)", 1)
            .does("event(8, 46, 0, 0, 1)")
            .is("judge(45, 0, 1)", 2)
            .is("judge(45, 0, 2)", 1);
    }

    private static void judgeChangesNothing() {
        Case.of(JUDGE, "Tells what event() would return now").settings(10, 0, 0)
            .does("event(0, 50, 0, 0, 0)", "judge(49, 0, 1)", "judge(1999, 1, 0)", "judge(49, 1, 2)")
            .are(50, "count(5)", "count(6)")
            .is("count(12)", 4)
            .is("paneOf(4, 0)", 1)
            .are(Case.NONE, "filed(0, 0)", "filed(1, 0)", "trust(1)")
            .is("count(0)", 1);
    }

    private static void latenessArguments() {
        Case.of(LATENESS, "`time`: 0 to 1999").outside("lateness(?)", 0, 1999)
            .are(Case.NONE, "lateness(0)", "lateness(1999)");
        Case.of(LATENESS, "INVALID_ARGUMENT if time is out of range").does("event(0, 1999, 0, 0, 0)")
            .outside("lateness(?)", 0, 1999)
            .is("lateness(0)", 1985);
    }

    private static void latenessOfShut() {
        Case.of(LATENESS, "Returns how late").settings(10, 0, 0)
            .does("event(0, 30, 0, 0, 0)")
            .are(1, "lateness(29)", "lateness(20)")
            .are(11, "lateness(19)", "lateness(10)")
            .are(21, "lateness(9)", "lateness(0)");
        Case.of(LATENESS, "Returns how late").settings(1, 0, 0)
            .does("event(0, 1999, 0, 0, 0)")
            .is("lateness(1998)", 1).is("lateness(0)", 1999);
    }

    private static void latenessNotShut() {
        Case.of(LATENESS, "NOT_FOUND if its pane is not shut").settings(10, 0, 0)
            .is("lateness(0)", Case.NONE)
            .does("event(0, 29, 0, 0, 0)").is("lateness(29)", Case.NONE).is("lateness(20)", Case.NONE)
            .does("event(1, 30, 0, 0, 0)").is("lateness(29)", 1).is("lateness(30)", Case.NONE)
            .does("event(2, 29, 0, 0, 1)").is("lateness(29)", Case.NONE).is("lateness(19)", 11)
            .does("event(3, 31, 0, 0, 0)").is("lateness(29)", Case.NONE).is("lateness(19)", 12)
            .does("move(12)").is("lateness(19)", Case.NONE).is("lateness(9)", 10);
    }

    private static void latenessOfTurnedAway() {
        Case.of(LATENESS, "Tells how late an event of a time would be now.").settings(10, 0, 0)
            .does("event(0, 30, 0, 0, 0)", "event(1, 29, 0, 0, 0)").is("lateness(29)", 1)
            .does("event(2, 35, 0, 0, 0)").is("lateness(29)", 6);
    }

    private static void latestArguments() {
        Case.of(LATEST, "`key`: 0 to 5").outside("latestExcused(?, 1)", 0, 5)
            .are(Case.NONE, "latestExcused(0, 1)", "latestExcused(5, 1)");
        Case.of(LATEST, "`excuse`: 1 to 3").does("event(0, 50, 0, 0, 0)").outside("latestExcused(0, ?)", 1, 3)
            .is("latestExcused(0, 0)", Case.INVALID)
            .are(39, "latestExcused(0, 1)", "latestExcused(0, 2)")
            .is("latestExcused(0, 3)", 34);
        Case.of(LATEST, "INVALID_ARGUMENT if an argument is out of range").does("event(0, 50, 0, 0, 0)")
            .are(Case.INVALID, "latestExcused(6, 0)", "latestExcused(-1, 3)", "latestExcused(0, 0)",
                "latestExcused(5, 4)");
    }

    private static void latestOfNet() {
        Case.of(LATEST, "Returns the latest time that an excuse could be accepted for now by its kind")
            .settings(10, 0, 100)
            .does("event(0, 39, 0, 0, 0)").are(29, "latestExcused(0, 1)", "latestExcused(5, 1)")
            .does("event(1, 29, 0, 0, 1)").is("latestExcused(0, 1)", Case.NONE)
            .does("event(2, 49, 0, 0, 0)").is("latestExcused(0, 1)", 39);
    }

    private static void latestOfIllness() {
        Case.of(LATEST, "could be accepted for now by its kind, of a key").settings(10, 0, 100)
            .does("event(0, 69, 0, 0, 0)", "event(1, 55, 0, 0, 1)", "event(3, 34, 0, 0, 3)")
            .are(49, "latestExcused(0, 2)", "latestExcused(1, 2)")
            .is("event(4, 49, 0, 0, 2)", 1)
            .is("latestExcused(0, 2)", Case.NONE)
            .is("latestExcused(1, 2)", 29)
            .is("event(5, 29, 1, 0, 2)", 1)
            .is("latestExcused(2, 2)", Case.NONE);
    }

    private static void latestOfFeast() {
        Case.of(LATEST, "Returns the latest time that an excuse could be accepted for now by its kind")
            .settings(5, 0, 100)
            .does("event(0, 12, 0, 0, 0)").is("latestExcused(0, 3)", 6)
            .does("event(1, 5, 0, 0, 1)").is("latestExcused(0, 3)", Case.NONE)
            .does("event(2, 15, 0, 0, 0)").is("latestExcused(0, 3)", 13)
            .does("event(3, 20, 0, 0, 0)").is("latestExcused(0, 3)", 19)
            .does("event(4, 1999, 0, 0, 0)").is("latestExcused(0, 3)", 1994);
        Case.of(LATEST, "Returns the latest time that an excuse could be accepted for now by its kind")
            .settings(100, 0, 0)
            .does("event(0, 100, 0, 0, 0)").is("latestExcused(0, 3)", 97)
            .does("event(1, 250, 0, 0, 0)").is("latestExcused(0, 3)", 195);
        Case.of(LATEST, "Returns the latest time that an excuse could be accepted for now by its kind")
            .settings(1, 0, 100)
            .does("event(0, 5, 0, 0, 0)").is("latestExcused(0, 3)", Case.NONE)
            .does("event(1, 6, 0, 0, 0)").is("latestExcused(0, 3)", 5)
            .does("event(2, 5, 0, 0, 3)").is("latestExcused(0, 3)", Case.NONE)
            .does("event(3, 1999, 0, 0, 0)").is("latestExcused(0, 3)", 1994);
    }

    private static void latestThatIsLate() {
        Case.of(LATEST, "Returns the time of the latest event that would be late and for which it would be accepted")
            .settings(10, 0, 0)
            .does("event(0, 20, 0, 0, 0)").is("latestExcused(0, 1)", 19)
            .does("event(1, 19, 0, 0, 1)").are(Case.NONE, "latestExcused(0, 1)").is("latestExcused(0, 2)", 9)
            .does("event(2, 21, 0, 0, 0)").is("paneOf(1, 0)", 3).is("latestExcused(0, 2)", 9)
            .is("latestExcused(0, 3)", 6)
            .does("move(8)").are(9, "latestExcused(0, 1)", "latestExcused(0, 2)")
            .does("undo()").is("latestExcused(0, 1)", Case.NONE);
        Case.of(LATEST, "Returns the time of the latest event that would be late").settings(1, 0, 100)
            .does("event(0, 8, 0, 0, 0)").is("latestExcused(0, 3)", 6)
            .does("event(1, 6, 0, 0, 3)").is("latestExcused(0, 3)", 5)
            .does("event(2, 5, 0, 0, 3)").is("latestExcused(0, 3)", Case.NONE);
        Case.of(LATEST, "Returns the time of the latest event that would be late").settings(5, 0, 100)
            // The times of pane 7 are no feasts, and pane 6 is reopened.
            .does("event(0, 40, 0, 0, 0)").is("latestExcused(0, 3)", 34)
            .does("event(1, 34, 0, 0, 3)").is("latestExcused(0, 3)", 27);
    }

    private static void latestWhateverIsFull() {
        Case.of(LATEST, "whatever cabinets are full").settings(1, 0, 100)
            .does("event(0, 50, 0, 0, 0)", "event(1, 5, 0, 0, 3)", "event(2, 6, 0, 0, 3)", "event(3, 12, 0, 0, 3)",
                "event(4, 13, 0, 0, 3)")
            .are(1, "event(5, 49, 0, 0, 1)", "event(6, 47, 0, 0, 1)", "event(7, 46, 0, 0, 1)", "event(8, 45, 0, 0, 1)")
            .are(1, "event(9, 44, 0, 0, 2)", "event(10, 43, 1, 0, 2)", "event(11, 42, 2, 0, 2)",
                "event(12, 41, 3, 0, 2)")
            .are(2, "judge(48, 4, 1)", "judge(48, 4, 2)", "judge(48, 4, 3)")
            .are(48, "latestExcused(4, 1)", "latestExcused(4, 2)", "latestExcused(4, 3)")
            .is("latestExcused(0, 2)", Case.NONE);
    }

    private static void latestNone() {
        Case.of(LATEST, "NOT_FOUND if there is none").settings(10, 0, 0)
            .row("latestExcused(0, ?)", Case.INVALID, Case.NONE, Case.NONE, Case.NONE)
            .does("event(0, 9, 0, 0, 0)")
            .row("latestExcused(0, ?)", Case.INVALID, Case.NONE, Case.NONE, Case.NONE)
            .does("event(1, 10, 0, 0, 0)").row("latestExcused(0, ?)", Case.INVALID, 9, 9, 6)
            .does("event(2, 9, 0, 0, 1)")
            .row("latestExcused(0, ?)", Case.INVALID, Case.NONE, Case.NONE, Case.NONE)
            .does("event(3, 11, 0, 0, 0)")
            .row("latestExcused(0, ?)", Case.INVALID, Case.NONE, Case.NONE, Case.NONE);
        Case.of(LATEST, "NOT_FOUND if there is none").settings(1, 0, 0)
            .does("event(0, 4, 0, 0, 0)")
            .row("latestExcused(0, ?)", Case.INVALID, 3, 3, Case.NONE);
    }

    private static void filedArguments() {
        Case.of(FILED, "`cabinet`: 0 to 2").outside("filed(?, 0)", 0, 2)
            .are(Case.NONE, "filed(0, 0)", "filed(2, 0)");
        Case.of(FILED, "`place`: 0 to 3").outside("filed(0, ?)", 0, 3)
            .are(Case.NONE, "filed(0, 0)", "filed(0, 3)");
        Case.of(FILED, "INVALID_ARGUMENT if an argument is out of range")
            .are(Case.INVALID, "filed(2, 4)", "filed(1, -1)", "filed(0, 5)", "filed(3, 4)");
    }

    private static void filedPlaces() {
        Case.of(FILED, "Returns the id of the event whose excuse is in a place of a cabinet.").settings(1, 0, 0)
            .does("event(63, 50, 0, 0, 0)")
            .are(1, "event(20, 49, 0, 0, 1)", "event(0, 48, 0, 0, 1)", "event(23, 46, 0, 0, 2)", "event(24, 5, 0, 0, 3)")
            .is("event(21, 47, 0, 0, 0)", 2)
            .is("event(0, 45, 0, 0, 1)", 4)
            .row("filed(0, ?)", 20, 0, Case.NONE, Case.NONE)
            .row("filed(1, ?)", 23, Case.NONE, Case.NONE, Case.NONE)
            .row("filed(2, ?)", 24, Case.NONE, Case.NONE, Case.NONE)
            .does("event(62, 60, 0, 0, 0)").is("count(10)", 4).is("filed(0, 0)", 20);
    }

    private static void filedEmpty() {
        Case.of(FILED, "NOT_FOUND if the place is empty").settings(1, 0, 0)
            .does("event(0, 50, 0, 0, 0)").is("filed(0, 0)", Case.NONE)
            .does("event(1, 49, 0, 0, 1)").is("filed(0, 0)", 1).is("filed(0, 1)", Case.NONE)
            .does("event(2, 48, 0, 0, 1)", "event(3, 47, 0, 0, 1)").is("filed(0, 3)", Case.NONE)
            .does("event(4, 46, 0, 0, 1)").is("filed(0, 3)", 4)
            .does("undo()").is("filed(0, 3)", Case.NONE).is("filed(0, 2)", 3);
    }

    private static void trustArguments() {
        Case.of(TRUST, "`key`: 0 to 5").outside("trust(?)", 0, 5)
            .are(Case.NONE, "trust(0)", "trust(5)");
        Case.of(TRUST, "INVALID_ARGUMENT if key is out of range")
            .does("event(0, 5, 0, 0, 0)", "event(1, 5, 5, 0, 0)")
            .are(Case.INVALID, "trust(-1)", "trust(6)")
            .are(0x3F800000, "trust(0)", "trust(5)");
    }

    private static void trustNone() {
        Case.of(TRUST, "NOT_FOUND if it has no such events").does("event(0, 50, 3, 0, 0)")
            .row("trust(?)", Case.NONE, Case.NONE, Case.NONE, 0x3F800000, Case.NONE, Case.NONE)
            .does("undo()").is("trust(3)", Case.NONE);
    }

    private static void trustOfDoubles() {
        Case.of(TERMS_TRUST, "of all its events so far that were not double").settings(1, 0, 0)
            .does("event(0, 50, 3, 0, 0)", "event(0, 50, 2, 0, 0)", "event(0, 49, 3, 0, 0)")
            .is("trust(2)", Case.NONE)
            .isFloat("trust(3)", 1f)
            .does("event(1, 49, 3, 0, 0)", "event(1, 51, 3, 0, 0)").isFloat("trust(3)", 0.5f);
    }

    private static void trustWhole() {
        Case.of(TERMS_TRUST, "how many counted without an excuse (event() has returned 0)").settings(10, 0, 5)
            .does("event(0, 50, 1, 0, 3)").isFloat("trust(1)", 1f)
            .does("event(1, 49, 0, 0, 1)", "event(2, 48, 1, 0, 2)").isFloat("trust(1)", 1f);
    }

    private static void trustHalf() {
        Case.of(TRUST, "Returns the bits of the trust of a key.").settings(1, 0, 0)
            .does("event(0, 50, 0, 0, 0)", "event(1, 49, 0, 0, 1)", "event(2, 48, 0, 0, 0)", "event(3, 47, 1, 0, 0)")
            .row("trust(?)", 0x3F000000, 0, Case.NONE, Case.NONE, Case.NONE, Case.NONE);
        Case.of(TERMS_TRUST, "plus half of those that were excused").settings(1, 0, 0)
            .does("event(0, 50, 5, 0, 0)", "event(1, 49, 4, 0, 1)").isFloat("trust(4)", 0.5f)
            .does("event(2, 48, 5, 0, 2)").isFloat("trust(5)", 0.75f)
            .does("event(3, 47, 5, 0, 1)").is("trust(5)", 0x3F2AAAAB)
            .does("event(4, 6, 5, 0, 3)").isFloat("trust(5)", 0.625f);
    }

    private static void trustTurnedAway() {
        Case.of(TERMS_TRUST, "divided by how many they are, those that were turned away, too").settings(1, 0, 0)
            .does("event(0, 50, 5, 0, 0)", "event(1, 49, 5, 0, 0)").isFloat("trust(5)", 0.5f)
            .does("event(2, 48, 0, 0, 0)").is("trust(0)", 0)
            .does("event(3, 47, 1, 0, 1)", "event(4, 51, 2, 0, 0)").is("event(5, 47, 2, 0, 1)", 3)
            .isFloat("trust(2)", 0.5f)
            .is("event(6, 47, 3, 0, 0)", 3)
            .is("trust(3)", 0);
    }

    private static void trustInFloats() {
        Case.of(TERMS_TRUST, "in floats: whole and half events are added up in floats").settings(1, 0, 0)
            .does("event(0, 50, 5, 0, 0)", "event(1, 1, 5, 0, 0)", "event(2, 2, 5, 0, 0)").is("trust(5)", 0x3EAAAAAB)
            .does("event(3, 49, 5, 0, 1)").isFloat("trust(5)", 1.5f / 4f)
            .does("event(4, 48, 5, 0, 2)", "event(5, 3, 5, 0, 1)", "event(6, 4, 5, 0, 1)").is("trust(5)", 0x3E924925);
        Case most = Case.of(TERMS_TRUST, "in floats").settings(1, 0, 0);
        for (int id = 0; id < 64; id++) {
            int excused = id == 7 ? 1 : 0;
            most.does("event(" + id + ", " + (id == 7 || id % 9 == 8 ? 41 + id % 9 : 50) + ", 3, 0, " + excused + ")");
        }
        // Seven of them, 8, 17 and so on to 62, are turned away; the one of id 7 is excused.
        most.is("count(2)", 1).is("count(3)", 7).isFloat("trust(3)", 56.5f / 64f);
    }
}
