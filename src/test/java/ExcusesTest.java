/** What the terms say of excuses, cabinets and reopened panes, for Promise 3. */
public final class ExcusesTest {
    private static final String EXCUSES = "Promise 3, Excuses";

    public static void main(String[] args) {
        none();
        net();
        netByPaneEnd();
        illness();
        illnessOnce();
        illnessOfOtherExcuses();
        illnessNotNeeded();
        illnessNotAccepted();
        illnessUndone();
        feast();
        feastHoweverLate();
        turnedAway();
        filedIfAccepted();
        fourPlaces();
        cabinetOfNet();
        cabinetOfIllness();
        cabinetOfAll();
        ownCabinetFirst();
        fullCabinetOfAll();
        fullForNet();
        fullForIllness();
        takesWordBack();
        withoutWord();
        countsInIt();
        closesAt();
        closesBeyond();
        leastGrace();
        greatestGrace();
        graceAsItWas();
        closesByWatermarkMovedBack();
        reopenedBehindMovedWatermark();
        lastWord();
        Case.end();
    }

    /** Panes of one time: then an event of the time t is (watermark - t) late. */
    private static Case sized1(String sentence, int latest) {
        return Case.of(EXCUSES, sentence).settings(1, 0, 100).does("event(0, " + latest + ", 0, 1, 0)");
    }

    private static void none() {
        sized1("0 none, which is never accepted", 50)
            .are(2, "event(1, 49, 0, 1, 0)", "event(2, 48, 1, 1, 0)", "event(3, 5, 2, 1, 0)",
                "event(4, 47, 3, 1, 0)");
    }

    private static void net() {
        sized1("1 the net, accepted if the event is at most 10 late", 50)
            .is("event(1, 39, 0, 1, 1)", 2)
            .is("event(2, 40, 0, 1, 1)", 1)
            .is("event(3, 49, 0, 1, 1)", 1)
            .is("event(4, 5, 0, 1, 1)", 2);
    }

    private static void netByPaneEnd() {
        Case.of(EXCUSES, "1 the net, accepted if the event is at most 10 late").settings(10, 0, 0)
            .does("event(0, 29, 0, 1, 0)")
            .are(1, "judge(10, 0, 1)", "judge(19, 0, 1)")
            .does("event(1, 30, 0, 1, 0)")
            .are(2, "judge(10, 0, 1)", "judge(19, 0, 1)")
            .are(1, "judge(20, 0, 1)", "judge(29, 0, 1)");
    }

    private static void illness() {
        sized1("2 illness, accepted if it is at most 40 late", 60)
            .is("event(1, 19, 0, 1, 2)", 2)
            .is("event(2, 20, 0, 1, 2)", 1)
            .is("event(3, 59, 1, 1, 2)", 1)
            .is("event(4, 6, 2, 1, 2)", 2);
    }

    private static void illnessOnce() {
        sized1("no other event of this key was excused by illness so far", 60)
            .is("event(1, 59, 0, 1, 2)", 1)
            .is("event(2, 58, 0, 1, 2)", 2)
            .is("event(3, 58, 1, 1, 2)", 1)
            .is("event(4, 57, 1, 1, 2)", 2)
            .is("event(5, 57, 5, 1, 2)", 1);
        Case.of(EXCUSES, "no other event of this key was excused by illness so far").settings(1, 0, 100)
            .does("event(1, 60, 0, 1, 0)")
            .is("event(0, 59, 0, 1, 2)", 1)
            .is("event(2, 58, 0, 1, 2)", 2)
            .is("event(63, 58, 5, 1, 2)", 1)
            .is("event(3, 57, 5, 1, 2)", 2);
    }

    private static void illnessOfOtherExcuses() {
        sized1("no other event of this key was excused by illness so far", 60)
            .is("event(1, 59, 0, 1, 1)", 1)
            .is("event(2, 55, 0, 1, 3)", 1)
            .is("event(3, 58, 0, 1, 2)", 1);
    }

    private static void illnessNotNeeded() {
        sized1("no other event of this key was excused by illness so far", 60)
            .is("event(1, 60, 0, 1, 2)", 0)
            .is("event(2, 59, 1, 1, 1)", 1)
            .is("event(3, 59, 0, 1, 2)", 0)
            .is("event(4, 58, 0, 1, 2)", 1);
    }

    private static void illnessNotAccepted() {
        sized1("no other event of this key was excused by illness so far", 60)
            .is("event(1, 10, 0, 1, 2)", 2)
            .is("event(2, 59, 0, 1, 2)", 1);
    }

    private static void illnessUndone() {
        sized1("no other event of this key was excused by illness so far", 60)
            .is("event(1, 59, 0, 1, 2)", 1)
            .does("undo()")
            .is("event(2, 58, 0, 1, 2)", 1);
    }

    private static void feast() {
        sized1("3 a feast, accepted if the time of the event modulo 7 is 5 or 6", 30)
            .are(2, "event(1, 0, 0, 1, 3)", "event(2, 4, 0, 1, 3)", "event(3, 7, 0, 1, 3)",
                "event(4, 11, 0, 1, 3)", "event(5, 29, 0, 1, 3)")
            .are(1, "event(6, 5, 0, 1, 3)", "event(7, 6, 0, 1, 3)", "event(8, 12, 0, 1, 3)",
                "event(9, 27, 0, 1, 3)");
    }

    private static void feastHoweverLate() {
        sized1("however late it is", 1999)
            .is("event(1, 5, 0, 1, 3)", 1)
            .is("event(2, 6, 0, 1, 3)", 1)
            .is("event(3, 1992, 0, 1, 3)", 2)
            .is("event(4, 1994, 0, 1, 3)", 1);
    }

    private static void turnedAway() {
        sized1("A late event with an excuse that is not accepted is turned away.", 60)
            .are(2, "event(1, 10, 1, 9, 1)", "event(2, 10, 1, 9, 2)", "event(3, 10, 1, 9, 3)")
            .is("count(3)", 3)
            .row("paneOf(10, ?)", 1, 0, 0, 0, Case.NONE, 0, 0)
            .are(Case.NONE, "filed(0, 0)", "filed(1, 0)", "filed(2, 0)")
            .is("count(7)", 0);
    }

    private static void filedIfAccepted() {
        Case.of(EXCUSES, "An excuse that is accepted is filed in a cabinet").settings(10, 0, 0)
            .is("event(0, 50, 0, 1, 1)", 0)
            .is("event(1, 49, 0, 1, 1)", 1)
            .is("event(2, 48, 0, 1, 1)", 0)
            .is("event(3, 39, 0, 1, 1)", 2)
            .is("event(4, 51, 0, 1, 1)", 0)
            .is("event(5, 48, 0, 1, 1)", 3)
            .is("event(1, 49, 0, 1, 1)", 4)
            .row("filed(0, ?)", 1, Case.NONE, Case.NONE, Case.NONE)
            .is("filed(2, 0)", Case.NONE);
    }

    private static void fourPlaces() {
        sized1("there are three with 4 places each", 50)
            .are(1, "event(1, 49, 0, 1, 1)", "event(2, 48, 0, 1, 1)", "event(3, 47, 0, 1, 1)",
                "event(4, 46, 0, 1, 1)")
            .are(1, "event(11, 45, 0, 1, 2)", "event(12, 44, 1, 1, 2)", "event(13, 43, 2, 1, 2)",
                "event(14, 42, 3, 1, 2)")
            .are(1, "event(21, 5, 0, 1, 3)", "event(22, 6, 0, 1, 3)", "event(23, 12, 0, 1, 3)",
                "event(24, 13, 0, 1, 3)")
            .row("filed(0, ?)", 1, 2, 3, 4)
            .row("filed(1, ?)", 11, 12, 13, 14)
            .row("filed(2, ?)", 21, 22, 23, 24);
    }

    private static void cabinetOfNet() {
        sized1("cabinet 0 takes excuses by the net alone", 50)
            .are(1, "event(1, 49, 0, 1, 2)", "event(2, 48, 1, 1, 2)", "event(3, 47, 2, 1, 2)",
                "event(4, 46, 3, 1, 2)", "event(5, 45, 4, 1, 2)", "event(6, 5, 0, 1, 3)")
            .is("filed(0, 0)", Case.NONE)
            .is("event(7, 44, 0, 1, 1)", 1)
            .is("filed(0, 0)", 7);
    }

    private static void cabinetOfIllness() {
        sized1("cabinet 1 those by illness alone", 50)
            .are(1, "event(1, 49, 0, 1, 1)", "event(2, 48, 1, 1, 1)", "event(3, 47, 2, 1, 1)",
                "event(4, 46, 3, 1, 1)", "event(5, 45, 4, 1, 1)", "event(6, 5, 0, 1, 3)")
            .is("filed(1, 0)", Case.NONE)
            .is("event(7, 44, 0, 1, 2)", 1)
            .is("filed(1, 0)", 7);
    }

    private static void cabinetOfAll() {
        sized1("cabinet 2 all", 50)
            .are(1, "event(1, 49, 0, 1, 1)", "event(2, 48, 0, 1, 1)", "event(3, 47, 0, 1, 1)",
                "event(4, 46, 0, 1, 1)", "event(5, 45, 0, 1, 1)")
            .are(1, "event(11, 44, 0, 1, 2)", "event(12, 43, 1, 1, 2)", "event(13, 42, 2, 1, 2)",
                "event(14, 41, 3, 1, 2)", "event(15, 39, 4, 1, 2)")
            .is("event(21, 5, 0, 1, 3)", 1)
            .row("filed(2, ?)", 5, 15, 21, Case.NONE);
    }

    private static void ownCabinetFirst() {
        sized1("it goes to the one of its own, if it has one that is not full, otherwise to cabinet 2", 50)
            .are(1, "event(1, 5, 0, 1, 3)", "event(2, 49, 0, 1, 1)", "event(3, 48, 0, 1, 2)")
            .row("filed(0, ?)", 2, Case.NONE)
            .row("filed(1, ?)", 3, Case.NONE)
            .row("filed(2, ?)", 1, Case.NONE);
    }

    private static Case allFeasts() {
        return sized1("If that is full, it is not accepted.", 50)
            .are(1, "event(1, 5, 0, 1, 3)", "event(2, 6, 0, 1, 3)", "event(3, 12, 0, 1, 3)",
                "event(4, 13, 0, 1, 3)");
    }

    private static void fullCabinetOfAll() {
        allFeasts()
            .is("event(5, 19, 0, 1, 3)", 2)
            .is("paneOf(19, 0)", 1)
            .is("event(6, 49, 0, 1, 1)", 1)
            .is("event(7, 48, 0, 1, 2)", 1)
            .row("filed(2, ?)", 1, 2, 3, 4);
    }

    private static void fullForNet() {
        allFeasts()
            .are(1, "event(11, 49, 0, 1, 1)", "event(12, 48, 0, 1, 1)", "event(13, 47, 0, 1, 1)",
                "event(14, 46, 0, 1, 1)")
            .is("event(15, 45, 0, 1, 1)", 2)
            .is("event(16, 45, 0, 1, 2)", 1)
            .row("filed(0, ?)", 11, 12, 13, 14);
    }

    private static void fullForIllness() {
        allFeasts()
            .are(1, "event(11, 49, 0, 1, 2)", "event(12, 48, 1, 1, 2)", "event(13, 47, 2, 1, 2)",
                "event(14, 46, 3, 1, 2)")
            .is("event(15, 45, 4, 1, 2)", 2)
            .is("event(16, 45, 4, 1, 1)", 1)
            .row("filed(1, ?)", 11, 12, 13, 14);
    }

    private static void takesWordBack() {
        Case.of(EXCUSES, "it takes its word back, if it has told one").settings(10, 0, 5)
            .does("event(0, 4, 0, 6, 0)", "event(1, 10, 0, 1, 0)")
            .is("standing(0, 1)", 6)
            .does("event(2, 5, 0, 9, 1)")
            .is("standing(0, 1)", Case.NONE)
            .row("wordAt(1, ?)", 1, 0, 1, 6)
            .does("event(3, 6, 0, 9, 0)")
            .is("count(9)", 1);
    }

    private static void withoutWord() {
        Case.of(EXCUSES, "it takes its word back, if it has told one").settings(10, 0, 5)
            .does("event(0, 10, 0, 1, 0)", "event(1, 5, 0, 9, 1)")
            .are(0, "count(7)", "count(9)", "paneOf(0, 5)", "paneOf(0, 6)");
    }

    private static void countsInIt() {
        Case.of(EXCUSES, "When an event is excused, its pane is reopened").settings(10, 0, 5)
            .does("event(0, 30, 0, 1, 0)", "event(1, 29, 0, 1, 1)")
            .row("paneOf(?, 0)", 1, 1, 2, 0);
        Case.of(EXCUSES, "and the event counts in it").settings(10, 0, 5)
            .does("event(0, 4, 1, 6, 0)", "event(1, 10, 0, 1, 0)", "event(2, 5, 3, 9, 1)")
            .row("paneOf(0, ?)", 2, 2, 15, 10, 16, 1, 1);
    }

    private static void closesAt() {
        Case.of(EXCUSES, "plus the grace (as it was then), plus 1").settings(10, 0, 3)
            .does("event(0, 10, 0, 1, 0)", "event(1, 5, 0, 1, 1)").is("paneOf(0, 4)", 14)
            .does("event(2, 13, 0, 1, 0)").is("paneOf(0, 0)", 2)
            .does("event(3, 14, 0, 1, 0)").is("paneOf(0, 0)", 3);
    }

    private static void closesBeyond() {
        Case.of(EXCUSES, "(or has come beyond this)").settings(10, 0, 3)
            .does("event(0, 10, 0, 1, 0)", "event(1, 5, 0, 1, 1)", "event(2, 15, 0, 1, 0)")
            .is("paneOf(0, 0)", 3);
        Case.of(EXCUSES, "(or has come beyond this)").settings(10, 0, 3)
            .does("event(0, 10, 0, 1, 0)", "event(1, 5, 0, 1, 1)", "event(2, 1999, 0, 1, 0)")
            .is("paneOf(0, 0)", 3)
            .row("wordAt(?, 1)", 0, 1, Case.NONE);
    }

    private static void leastGrace() {
        Case.of(EXCUSES, "plus the grace (as it was then), plus 1").settings(10, 0, 0)
            .does("event(0, 10, 0, 1, 0)", "event(1, 5, 0, 1, 1)")
            .is("paneOf(0, 4)", 11)
            .is("event(2, 10, 0, 1, 0)", 0)
            .is("event(3, 5, 0, 1, 0)", 0)
            .does("event(4, 11, 0, 1, 0)").is("paneOf(0, 0)", 3);
    }

    private static void greatestGrace() {
        Case.of(EXCUSES, "plus the grace (as it was then), plus 1").settings(10, 0, 100)
            .does("event(0, 10, 0, 1, 0)", "event(1, 5, 0, 1, 1)").is("paneOf(0, 4)", 111)
            .does("event(2, 110, 0, 1, 0)").is("paneOf(0, 0)", 2)
            .does("event(3, 111, 0, 1, 0)").is("paneOf(0, 0)", 3);
        Case.of(EXCUSES, "plus the grace (as it was then), plus 1").settings(10, 0, 100)
            .does("event(0, 1999, 0, 1, 0)", "event(1, 1980, 0, 1, 1)").is("paneOf(198, 4)", 2100)
            .is("paneOf(198, 0)", 2);
    }

    private static void graceAsItWas() {
        Case.of(EXCUSES, "plus the grace (as it was then)").settings(10, 0, 3)
            .does("event(0, 20, 0, 1, 0)", "event(1, 19, 0, 1, 1)", "set(2, 0)")
            .is("paneOf(1, 4)", 24)
            .does("set(2, 50)", "event(2, 5, 0, 1, 3)")
            .is("paneOf(1, 4)", 24)
            .is("paneOf(0, 4)", 71)
            .does("event(3, 24, 0, 1, 0)")
            .is("paneOf(1, 0)", 3)
            .is("paneOf(0, 0)", 2);
    }

    private static void closesByWatermarkMovedBack() {
        Case.of(EXCUSES, "Its case is closed when the watermark has come to what it was").settings(10, 0, 3)
            .does("event(0, 10, 0, 1, 0)", "event(1, 5, 0, 1, 1)", "move(5)").is("paneOf(0, 4)", 14)
            .does("event(2, 13, 0, 1, 0)").is("paneOf(0, 0)", 2)
            .does("event(3, 14, 0, 1, 0)").is("paneOf(0, 0)", 3);
    }

    private static void reopenedBehindMovedWatermark() {
        Case.of(EXCUSES, "what it was when the pane was reopened").settings(10, 0, 13)
            .does("event(0, 25, 0, 1, 0)", "move(10)").is("event(1, 5, 0, 1, 1)", 1)
            .is("paneOf(0, 4)", 29)
            .does("event(2, 28, 0, 1, 0)").is("paneOf(0, 0)", 2)
            .does("event(3, 29, 0, 1, 0)").is("paneOf(0, 0)", 3);
    }

    private static void lastWord() {
        Case.of(EXCUSES, "then it tells its word, if events count in it, which is its last one")
            .settings(10, 0, 0)
            .does("event(0, 4, 0, 6, 0)", "event(1, 10, 0, 1, 0)", "event(2, 5, 0, 9, 1)", "event(3, 11, 0, 1, 0)")
            .row("wordAt(2, ?)", 0, 0, 2, 15)
            .are(3, "event(4, 5, 0, 9, 3)", "event(5, 5, 0, 9, 1)")
            .does("move(12)", "event(6, 1999, 0, 1, 0)")
            .is("standing(0, 0)", 2)
            .is("standing(0, 1)", 15)
            .is("paneOf(0, 5)", 2)
            .is("paneOf(0, 6)", 1);
    }
}
