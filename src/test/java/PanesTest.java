/** Promises 5 to 8, and what the terms say of means and of words that stand. */
public final class PanesTest {
    private static final String PANE_OF = "Promise 5";
    private static final String MEAN = "Promise 6";
    private static final String STANDING = "Promise 7";
    private static final String NEXT = "Promise 8";

    public static void main(String[] args) {
        paneArguments();
        paneWithoutTimes();
        paneStates();
        paneEvents();
        paneSum();
        paneKeys();
        paneClosesAt();
        paneClosesAtElse();
        paneTold();
        paneTakenBack();
        paneWordsNotKept();
        meanArguments();
        meanOfNone();
        meanInFloats();
        meanEnds();
        meanOfAnyNumbers();
        standingArguments();
        standingNone();
        standingWord();
        standingTakenBack();
        standingOfClosedCase();
        nextArguments();
        nextBehind();
        nextThatCounts();
        nextNone();
        nextWithoutTimes();
        nextOfMany();
        Case.end();
    }

    private static void paneArguments() {
        Case.of(PANE_OF, "`pane`: 0 to 1999").outside("paneOf(?, 0)", 0, 199).is("paneOf(0, 0)", 0);
        Case.of(PANE_OF, "`pane`: 0 to 1999").does("set(0, 1)")
            .outside("paneOf(?, 0)", 0, 1999)
            .are(0, "paneOf(0, 0)", "paneOf(1999, 0)");
        Case.of(PANE_OF, "`what`: 0: 0 open, 1 shut, 2 reopened, 3 a closed case").outside("paneOf(0, ?)", 0, 6)
            .are(0, "paneOf(0, 0)", "paneOf(0, 6)");
        Case.of(PANE_OF, "INVALID_ARGUMENT if an argument is out of range")
            .are(Case.INVALID, "paneOf(-1, 4)", "paneOf(2000, 4)", "paneOf(-1, 7)");
    }

    private static void paneWithoutTimes() {
        String sentence = "or the pane has no times up to 1999";
        Case.of(PANE_OF, sentence).are(0, "paneOf(199, 0)", "paneOf(199, 1)")
            .row("paneOf(200, ?)", Case.INVALID, Case.INVALID, Case.INVALID, Case.INVALID, Case.INVALID)
            .is("paneOf(1999, 0)", Case.INVALID)
            // 429496730 * 10 wraps around to 4.
            .is("paneOf(429496730, 0)", Case.INVALID);
        Case.of(PANE_OF, sentence).does("set(0, 7)").is("paneOf(285, 0)", 0).is("paneOf(286, 0)", Case.INVALID);
        Case.of(PANE_OF, sentence).does("set(0, 100)").is("paneOf(19, 0)", 0).is("paneOf(20, 0)", Case.INVALID);
        Case.of(PANE_OF, sentence).does("set(0, 3)").is("paneOf(666, 0)", 0).is("paneOf(667, 0)", Case.INVALID);
        Case.of(PANE_OF, sentence).does("set(0, 2)").is("paneOf(999, 0)", 0)
            .are(Case.INVALID, "paneOf(1000, 0)", "paneOf(1999, 0)");
    }

    private static Case five(String sentence) {
        return Case.of(PANE_OF, sentence).settings(10, 0, 2)
            .does("event(0, 12, 1, -30, 0)", "event(1, 19, 4, 10, 0)");
    }

    private static void paneStates() {
        five("0: 0 open, 1 shut, 2 reopened, 3 a closed case").is("paneOf(1, 0)", 0)
            .does("event(2, 25, 0, 1, 0)").row("paneOf(?, 0)", 1, 1, 0, 0)
            .does("event(3, 12, 1, 5, 1)").row("paneOf(?, 0)", 1, 2, 0, 0)
            .does("event(4, 28, 0, 1, 0)").row("paneOf(?, 0)", 1, 3, 0, 0);
    }

    private static void paneEvents() {
        five("1: how many events count in it").is("paneOf(1, 1)", 2).is("paneOf(0, 1)", 0)
            .does("event(1, 11, 0, 1, 0)").is("paneOf(1, 1)", 2)
            .does("event(2, 25, 0, 1, 0)", "event(3, 12, 1, 5, 0)").is("paneOf(1, 1)", 2)
            .does("event(4, 12, 1, 5, 1)").is("paneOf(1, 1)", 3)
            .does("event(5, 12, 1, 5, 0)").is("paneOf(1, 1)", 4);
    }

    private static void paneSum() {
        five("2: the sum of their amounts").is("paneOf(1, 2)", -20).is("paneOf(0, 2)", 0)
            .does("event(2, 25, 0, 1, 0)", "event(3, 12, 1, 5, 0)").is("paneOf(1, 2)", -20)
            .does("event(4, 12, 1, 5, 1)").is("paneOf(1, 2)", -15)
            .does("event(5, 12, 1, 15, 0)").is("paneOf(1, 2)", 0);
        Case least = Case.of(PANE_OF, "2: the sum of their amounts");
        for (int id = 0; id < 64; id++) {
            least.does("event(" + id + ", 0, 0, -100, 0)");
        }
        least.is("paneOf(0, 2)", -6400).is("paneOf(0, 1)", 64);
    }

    private static void paneKeys() {
        five("3: the set of their keys").is("paneOf(1, 3)", 18).is("paneOf(0, 3)", 0)
            .does("event(2, 11, 4, 1, 0)").is("paneOf(1, 3)", 18)
            .does("event(3, 11, 0, 1, 0)", "event(4, 11, 5, 1, 0)").is("paneOf(1, 3)", 51)
            .does("event(5, 20, 0, 0, 0)", "event(6, 11, 2, 1, 0)").is("paneOf(1, 3)", 51)
            .does("event(7, 11, 2, 1, 1)", "event(8, 11, 3, 1, 0)").is("paneOf(1, 3)", 63);
        for (int key = 0; key < 6; key++) {
            Case.of("Promise 5, Terms", "Sets are told as bits: bit k is for number k.")
                .does("event(0, 11, " + key + ", 1, 0)").is("paneOf(1, 3)", 1 << key)
                .does("event(1, 12, " + key + ", 1, 0)").is("paneOf(1, 3)", 1 << key)
                .does("event(2, 12, 2, 1, 0)").is("paneOf(1, 3)", 1 << key | 4);
        }
    }

    private static void paneClosesAt() {
        five("4: the watermark at which its case is closed")
            .does("event(2, 25, 0, 1, 0)", "event(3, 12, 1, 5, 1)").is("paneOf(1, 4)", 28)
            .does("event(4, 27, 1, 5, 0)").is("paneOf(1, 4)", 28);
    }

    private static void paneClosesAtElse() {
        Case.of(PANE_OF, "NOT_FOUND for 4 if it is not reopened").settings(10, 0, 2)
            .is("paneOf(0, 4)", Case.NONE)
            .does("event(0, 25, 0, 1, 0)").is("paneOf(1, 4)", Case.NONE).is("paneOf(2, 4)", Case.NONE)
            .does("event(1, 15, 0, 1, 1)").is("paneOf(1, 4)", 28).is("paneOf(0, 4)", Case.NONE)
            .does("event(2, 28, 0, 1, 0)").is("paneOf(1, 4)", Case.NONE);
    }

    private static void paneTold() {
        Case.of(PANE_OF, "5: how many words it has told (those that were taken back, too)").settings(10, 0, 2)
            .does("event(0, 15, 0, 1, 0)").is("paneOf(1, 5)", 0)
            .does("event(1, 22, 0, 1, 0)").is("paneOf(1, 5)", 1).is("paneOf(0, 5)", 0)
            .does("move(3)").is("paneOf(1, 5)", 1)
            .does("event(2, 23, 0, 1, 0)").is("paneOf(1, 5)", 2)
            .does("event(3, 15, 0, 1, 1)").is("paneOf(1, 5)", 2)
            .does("event(4, 29, 0, 1, 0)").is("paneOf(1, 5)", 3);
    }

    private static void paneTakenBack() {
        Case.of(PANE_OF, "6: how many it has taken back").settings(10, 0, 2)
            .does("event(0, 15, 0, 1, 0)", "event(1, 22, 0, 1, 0)").is("paneOf(1, 6)", 0)
            .does("move(3)").is("paneOf(1, 6)", 1).is("paneOf(0, 6)", 0)
            .does("event(2, 23, 0, 1, 0)").is("paneOf(1, 6)", 1)
            .does("event(3, 15, 0, 1, 1)").is("paneOf(1, 6)", 2)
            .does("event(4, 29, 0, 1, 0)").is("paneOf(1, 6)", 2);
    }

    private static void paneWordsNotKept() {
        Case old = Case.of(PANE_OF, "5: how many words it has told (those that were taken back, too); "
                + "6: how many it has taken back").settings(1, 0, 0)
            .does("event(0, 1, 0, 1, 0)", "event(1, 2, 0, 1, 0)", "event(2, 1, 0, 1, 1)", "event(3, 3, 0, 1, 0)")
            .row("paneOf(1, ?)", 3, 2, 2, 1, Case.NONE, 2, 1);
        for (int id = 4; id < 60; id++) {
            old.does("event(" + id + ", " + id + ", 0, 1, 0)");
        }
        // All three are dropped from the 40 words that are kept.
        old.is("wordAt(0, 1)", 19).row("paneOf(1, ?)", 3, 2, 2, 1, Case.NONE, 2, 1);
    }

    private static void meanArguments() {
        Case.of(MEAN, "`pane`: 0 to 1999").outside("mean(?)", 0, 199);
        Case.of(MEAN, "`pane`: 0 to 1999").does("set(0, 1)").outside("mean(?)", 0, 1999).is("mean(1999)", Case.NONE);
        Case.of(MEAN, "INVALID_ARGUMENT if the pane is out of range, or has no times up to 1999")
            .does("event(0, 4, 0, 1, 0)")
            .is("mean(199)", Case.NONE)
            .are(Case.INVALID, "mean(200)", "mean(1999)", "mean(429496730)");
        Case.of(MEAN, "or has no times up to 1999").does("set(0, 7)")
            .is("mean(285)", Case.NONE).is("mean(286)", Case.INVALID);
    }

    private static void meanOfNone() {
        Case.of(MEAN, "NOT_FOUND if no event counts in it").settings(10, 0, 0)
            .is("mean(0)", Case.NONE)
            .does("event(0, 15, 0, 1, 0)").is("mean(0)", Case.NONE)
            .is("event(1, 5, 0, 1, 0)", 2)
            .is("mean(0)", Case.NONE)
            .is("event(2, 5, 0, 1, 1)", 1)
            .isFloat("mean(0)", 1f)
            .does("undo()").is("mean(0)", Case.NONE);
    }

    private static void meanInFloats() {
        Case.of("Promise 6, Means and trust", "The mean of a pane is the sum of the amounts of the events that "
                + "count in it, divided by how many they are, in floats.")
            .does("event(0, 0, 0, 20, 0)").isFloat("mean(0)", 20f)
            .does("event(1, 1, 0, -25, 0)").isFloat("mean(0)", -2.5f)
            .does("event(2, 2, 0, 15, 0)").is("mean(0)", 0x40555555)
            .does("event(3, 3, 0, -10, 0)").is("mean(0)", 0)
            .does("event(4, 4, 0, -2, 0)").is("mean(0)", 0xBECCCCCD)
            .does("event(5, 4, 0, 1, 0)").is("mean(0)", 0xBE2AAAAB)
            .does("event(0, 4, 0, 50, 0)").is("mean(0)", 0xBE2AAAAB);
    }

    private static void meanEnds() {
        Case greatest = Case.of(MEAN, "Returns the bits of the float");
        Case least = Case.of(MEAN, "Returns the bits of the float");
        for (int id = 0; id < 64; id++) {
            greatest.does("event(" + id + ", 0, 0, 100, 0)").is("mean(0)", 0x42C80000);
            least.does("event(" + id + ", 0, 0, -100, 0)").is("mean(0)", 0xC2C80000);
        }
        Case.of(MEAN, "Returns the bits of the float").does("event(0, 0, 0, 0, 0)").is("mean(0)", 0);
        Case.of(MEAN, "Returns the bits of the float").does("event(0, 0, 0, 1, 0)").is("mean(0)", 0x3F800000);
        Case.of(MEAN, "Returns the bits of the float").does("event(0, 0, 0, -1, 0)").is("mean(0)", 0xBF800000);
    }

    private static void meanOfAnyNumbers() {
        int[] sums = {-100, -99, -57, -31, -8, -7, -3, -2, -1, 1, 2, 3, 5, 9, 17, 33, 64, 65, 97, 100};
        for (int sum : sums) {
            Case any = Case.of(MEAN, "Returns the bits of the mean of a pane.");
            for (int events = 1; events <= 64; events++) {
                any.does("event(" + (events - 1) + ", 9, 0, " + (events == 1 ? sum : 0) + ", 0)");
                any.isFloat("mean(0)", (float) sum / (float) events);
            }
        }
    }

    private static void standingArguments() {
        Case.of(STANDING, "`pane`: 0 to 1999").outside("standing(?, 0)", 0, 199);
        Case.of(STANDING, "`pane`: 0 to 1999").does("set(0, 1)").outside("standing(?, 1)", 0, 1999)
            .is("standing(1999, 1)", Case.NONE);
        Case.of(STANDING, "`what`: 0: how many events; 1: their sum").outside("standing(0, ?)", 0, 1);
        Case.of(STANDING, "INVALID_ARGUMENT if an argument is out of range, or the pane has no times up to 1999")
            .is("standing(199, 0)", Case.NONE)
            .are(Case.INVALID, "standing(200, 0)", "standing(1999, 1)", "standing(-1, 2)", "standing(429496730, 0)");
        Case.of(STANDING, "or the pane has no times up to 1999").does("set(0, 7)")
            .is("standing(285, 0)", Case.NONE).is("standing(286, 0)", Case.INVALID);
    }

    private static void standingNone() {
        Case.of(STANDING, "NOT_FOUND if no word of it stands").settings(10, 0, 1)
            .are(Case.NONE, "standing(0, 0)", "standing(0, 1)")
            .does("event(0, 5, 0, 7, 0)").are(Case.NONE, "standing(0, 0)", "standing(0, 1)")
            .does("event(1, 25, 0, 7, 0)").is("standing(0, 1)", 7)
            .are(Case.NONE, "standing(1, 0)", "standing(1, 1)", "standing(2, 0)");
    }

    private static void standingWord() {
        Case.of(STANDING, "the one that it told last").settings(10, 0, 1)
            .does("event(0, 1, 0, 7, 0)", "event(1, 2, 0, -9, 0)", "event(2, 10, 0, 1, 0)")
            .row("standing(0, ?)", 2, -2)
            .is("event(3, 0, 0, 1, 0)", 2)
            .row("standing(0, ?)", 2, -2)
            .does("event(4, 0, 0, 1, 1)", "event(5, 12, 0, 1, 0)")
            .row("standing(0, ?)", 3, -1);
        Case.of(STANDING, "the one that it told last").settings(10, 0, 1)
            .does("event(0, 1, 0, 0, 0)", "event(1, 10, 0, 1, 0)")
            .row("standing(0, ?)", 1, 0);
    }

    private static void standingTakenBack() {
        Case.of(STANDING, "if it was not taken back").settings(10, 0, 1)
            .does("event(0, 1, 0, 7, 0)", "event(1, 12, 0, 1, 0)", "event(2, 20, 0, 1, 0)")
            .row("standing(?, 0)", 1, 1, Case.NONE)
            .does("event(3, 11, 0, 1, 1)").row("standing(?, 0)", 1, Case.NONE, Case.NONE)
            .does("move(11)").row("standing(?, 0)", Case.NONE, Case.NONE, Case.NONE)
            .does("undo()").row("standing(?, 0)", 1, Case.NONE, Case.NONE)
            .does("undo()").row("standing(?, 0)", 1, 1, Case.NONE);
    }

    private static void standingOfClosedCase() {
        Case.of(STANDING, "something of the word of a pane that stands").settings(10, 0, 0)
            .does("event(0, 10, 0, 7, 0)", "event(1, 9, 0, 3, 1)").is("standing(0, 0)", Case.NONE)
            .does("event(2, 11, 0, 1, 0)").row("standing(0, ?)", 1, 3)
            .is("event(3, 9, 0, 5, 0)", 3)
            .does("move(11)").row("standing(0, ?)", 1, 3);
        Case old = Case.of(STANDING, "something of the word of a pane that stands").settings(1, 0, 0);
        for (int id = 0; id < 50; id++) {
            old.does("event(" + id + ", " + id + ", 0, " + id + ", 0)");
        }
        // Its word is not among the 40 that are kept.
        old.is("wordAt(0, 1)", 9).row("standing(3, ?)", 1, 3);
    }

    private static void nextArguments() {
        Case.of(NEXT, "`pane`: -1 to 1999").outside("nextPane(?)", -1, 1999)
            .are(Case.NONE, "nextPane(-1)", "nextPane(1999)");
    }

    private static void nextBehind() {
        Case.of(NEXT, "Returns the lowest pane behind another one that has events that count.").settings(10, 0, 1)
            .does("event(0, 5, 0, 0, 0)", "event(1, 72, 0, 0, 0)", "event(2, 74, 0, 0, 0)", "event(3, 1999, 0, 0, 0)")
            .are(0, "nextPane(-1)")
            .are(7, "nextPane(0)", "nextPane(1)", "nextPane(6)")
            .are(199, "nextPane(7)", "nextPane(198)")
            .are(Case.NONE, "nextPane(199)", "nextPane(200)", "nextPane(1999)");
        Case.of(NEXT, "Returns the number of the pane").does("set(0, 1)", "event(0, 1999, 0, 0, 0)")
            .are(1999, "nextPane(-1)", "nextPane(1998)")
            .is("nextPane(1999)", Case.NONE);
    }

    private static void nextThatCounts() {
        Case.of(NEXT, "that has events that count").settings(10, 0, 5)
            .does("event(0, 55, 0, 0, 0)")
            .is("event(1, 45, 0, 0, 0)", 2)
            .is("nextPane(-1)", 5)
            .is("event(2, 42, 0, 0, 1)", 1)
            .is("nextPane(-1)", 4)
            .is("nextPane(4)", 5)
            .does("undo()").is("nextPane(-1)", 5);
    }

    private static void nextNone() {
        Case.of(NEXT, "NOT_FOUND if there is none")
            .is("nextPane(-1)", Case.NONE)
            .does("event(0, 3, 0, 0, 0)").is("nextPane(-1)", 0).is("nextPane(0)", Case.NONE)
            .does("undo()").is("nextPane(-1)", Case.NONE);
    }

    private static void nextWithoutTimes() {
        Case.of(NEXT, "INVALID_ARGUMENT if pane is out of range").does("set(0, 100)", "event(0, 1999, 0, 0, 0)")
            .are(Case.NONE, "nextPane(19)", "nextPane(20)", "nextPane(1999)")
            .are(Case.INVALID, "nextPane(-2)", "nextPane(2000)");
    }

    private static void nextOfMany() {
        Case many = Case.of(NEXT, "Returns the lowest pane behind another one that has events that count.")
            .settings(1, 100, 1);
        for (int id = 0; id < 64; id++) {
            many.does("event(" + id + ", " + (99 - id) + ", 0, " + id + ", 0)");
        }
        many.is("nextPane(-1)", 36);
        for (int pane = 36; pane < 99; pane++) {
            many.is("nextPane(" + pane + ")", pane + 1).is("paneOf(" + pane + ", 2)", 99 - pane);
        }
        many.is("nextPane(99)", Case.NONE);
    }
}
