/** Promise 9, and what the terms say of words. */
public final class WordsTest {
    private static final String WORD_AT = "Promise 9";
    private static final String TERMS = "Promise 9, Words";

    public static void main(String[] args) {
        arguments();
        none();
        word();
        takenBack();
        otherKind();
        oldestFirst();
        forty();
        manyMore();
        takenBackWhenFull();
        undoneWhenFull();
        Case.end();
    }

    private static void arguments() {
        Case.of(WORD_AT, "`index`: 0 or more").settings(10, 0, 0)
            .are(Case.INVALID, "wordAt(-1, 0)", "wordAt(-40, 0)", "wordAt(-2147483648, 0)")
            .does("event(0, 5, 0, 1, 0)", "event(1, 15, 0, 1, 0)")
            .are(Case.INVALID, "wordAt(-1, 0)", "wordAt(-2147483648, 0)")
            .is("wordAt(0, 0)", 0)
            .are(Case.NONE, "wordAt(1, 0)", "wordAt(40, 0)", "wordAt(256, 0)", "wordAt(1073741824, 0)",
                "wordAt(2147483647, 0)");
        Case.of(WORD_AT, "`what`: 0: 0 if it was told, 1 if it was taken back").outside("wordAt(0, ?)", 0, 3);
        Case.of(WORD_AT, "1: its pane; 2: how many events; 3: their sum").settings(1, 0, 0)
            .does("event(0, 50, 0, -7, 0)", "event(1, 50, 0, 9, 0)", "event(2, 50, 0, 9, 0)", "event(3, 51, 0, 1, 0)")
            .row("wordAt(0, ?)", 0, 50, 3, 11)
            .outside("wordAt(0, ?)", 0, 3);
        Case.of(WORD_AT, "INVALID_ARGUMENT if an argument is out of range")
            .are(Case.INVALID, "wordAt(0, 4)", "wordAt(50, -1)", "wordAt(-1, 4)");
    }

    private static void none() {
        Case.of(WORD_AT, "NOT_FOUND if there are not so many").settings(10, 0, 0)
            .row("wordAt(0, ?)", Case.NONE, Case.NONE, Case.NONE, Case.NONE)
            .does("event(0, 5, 0, 0, 0)").is("wordAt(0, 2)", Case.NONE)
            .does("event(1, 15, 0, 0, 0)").is("wordAt(0, 2)", 1).is("wordAt(1, 2)", Case.NONE)
            .does("undo()").is("wordAt(0, 2)", Case.NONE);
    }

    private static void word() {
        Case.of(TERMS, "A word is told by a pane: how many events count in it, and the sum of their amounts.")
            .settings(10, 0, 0)
            .does("event(0, 25, 0, 3, 0)", "event(1, 27, 1, -4, 0)", "event(1, 28, 1, 50, 0)")
            .is("event(2, 5, 0, 50, 0)", 2)
            .is("wordAt(0, 0)", Case.NONE)
            .does("event(3, 30, 0, 4, 0)")
            .row("wordAt(0, ?)", 0, 2, 2, -1);
        Case.of(TERMS, "how many events count in it").settings(10, 0, 0)
            .does("event(0, 25, 0, 0, 0)", "event(1, 1999, 0, 0, 0)")
            .row("wordAt(0, ?)", 0, 2, 1, 0);
    }

    private static void takenBack() {
        Case.of(TERMS, "When a word is taken back, this is a word, too, of the other kind, with the same numbers.")
            .settings(10, 0, 0)
            .does("event(0, 25, 0, 3, 0)", "event(1, 27, 0, 4, 0)", "event(2, 30, 0, 4, 0)", "event(3, 29, 0, 9, 1)")
            .row("wordAt(0, ?)", 0, 2, 2, 7)
            .row("wordAt(1, ?)", 1, 2, 2, 7)
            .is("wordAt(2, 0)", Case.NONE)
            .is("count(7)", 2);
    }

    private static void otherKind() {
        Case.of(TERMS, "of the other kind").settings(10, 0, 0)
            .does("event(0, 25, 0, 3, 0)", "event(1, 30, 0, 4, 0)")
            .is("count(8)", 1).is("count(9)", 0)
            .does("move(1)").is("count(8)", 1).is("count(9)", 1)
            .does("event(2, 31, 0, 4, 0)").is("count(8)", 2).is("count(9)", 1)
            .row("wordAt(?, 0)", 0, 1, 0, Case.NONE);
    }

    private static void oldestFirst() {
        Case.of(TERMS, "numbered from 0, the oldest first").settings(10, 30, 0)
            .does("event(0, 25, 0, 3, 0)", "event(1, 5, 0, 4, 0)", "event(2, 15, 0, 5, 0)", "event(3, 99, 0, 0, 0)")
            .row("wordAt(?, 1)", 0, 1, 2, Case.NONE)
            .row("wordAt(?, 3)", 4, 5, 3, Case.NONE);
    }

    /** One word each of the panes 0 to words - 1, of which each has the amount of its number. */
    private static Case told(String sentence, int words) {
        Case made = Case.of(TERMS, sentence).settings(1, 0, 0);
        for (int id = 0; id <= words; id++) {
            made.does("event(" + id + ", " + id + ", 0, " + id + ", 0)");
        }
        return made;
    }

    private static void forty() {
        told("The latest 40 words are kept", 39)
            .is("count(7)", 39).is("wordAt(38, 1)", 38).is("wordAt(39, 1)", Case.NONE);
        told("The latest 40 words are kept", 40)
            .is("count(7)", 40).is("wordAt(0, 1)", 0).is("wordAt(39, 1)", 39).is("wordAt(40, 1)", Case.NONE);
        told("The latest 40 words are kept", 41)
            .is("count(7)", 40).is("count(8)", 41)
            .is("wordAt(0, 1)", 1).is("wordAt(38, 3)", 39).is("wordAt(39, 3)", 40)
            .is("wordAt(40, 1)", Case.NONE);
    }

    private static void manyMore() {
        Case most = told("The latest 40 words are kept, numbered from 0, the oldest first.", 63);
        most.is("count(7)", 40).is("count(8)", 63);
        for (int index = 0; index < 40; index++) {
            most.is("wordAt(" + index + ", 1)", 23 + index).is("wordAt(" + index + ", 3)", 23 + index);
        }
        most.is("wordAt(40, 1)", Case.NONE);
        Case backAndForth = told("The latest 40 words are kept", 61).does("move(62)");
        backAndForth.is("count(7)", 40).is("count(8)", 61).is("count(9)", 61)
            .is("wordAt(0, 0)", 1).is("wordAt(0, 1)", 21).is("wordAt(39, 1)", 60)
            .does("event(62, 1999, 0, 0, 0)")
            .is("count(8)", 123).is("wordAt(0, 0)", 0).is("wordAt(0, 1)", 22).is("wordAt(39, 1)", 61);
    }

    private static void takenBackWhenFull() {
        told("When a word is taken back, this is a word, too", 40).does("move(2)")
            .is("count(7)", 40)
            .is("count(9)", 2)
            .is("wordAt(0, 1)", 2)
            .is("wordAt(37, 0)", 0).is("wordAt(37, 1)", 39)
            .is("wordAt(38, 0)", 1).is("wordAt(38, 1)", 38)
            .is("wordAt(39, 0)", 1).is("wordAt(39, 3)", 39);
    }

    private static void undoneWhenFull() {
        told("The latest 40 words are kept", 42).is("wordAt(0, 1)", 2)
            .does("undo()").is("wordAt(0, 1)", 1).is("wordAt(39, 1)", 40).is("count(7)", 40)
            .does("undo()").is("wordAt(0, 1)", 0).is("wordAt(39, 1)", 39).is("count(7)", 40)
            .does("undo()").is("wordAt(0, 1)", 0).is("wordAt(39, 1)", Case.NONE).is("count(7)", 39);
    }
}
