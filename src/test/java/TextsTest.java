/** Promises 18 to 21, and what the terms say of texts. */
public final class TextsTest {
    private static final String TYPE = "Promise 18";
    private static final String CLEAR = "Promise 19";
    private static final String FAULT = "Promise 20";
    private static final String PLAY = "Promise 21";
    private static final String TERMS = "Promise 20, Texts";
    private static final int FORM = 1;
    private static final int NUMBER = 2;

    public static void main(String[] args) {
        characters();
        lengths();
        eighty();
        emptied();
        lengthItHad();
        faultArguments();
        noFault();
        emptyHasNone();
        commas();
        semicolons();
        minus();
        letters();
        digits();
        zerosAhead();
        otherSigns();
        ids();
        times();
        keys();
        amounts();
        formRatherThanNumber();
        firstEvent();
        cutOff();
        greatestText();
        faultIsNoChange();
        playStays();
        playIsOneChange();
        playOfNone();
        playWithFault();
        playCounts();
        playExcuses();
        playNumbers();
        playInOrder();
        playAgain();
        playGreatest();
        Case.end();
    }

    private static void characters() {
        Case.of(TYPE, "`character`: 32 to 126").outside("type(?)", 32, 126)
            .is("count(13)", 0)
            .is("type(32)", 1)
            .is("type(126)", 2);
        Case.of(TYPE, "INVALID_ARGUMENT if character is out of range").types("1,1,1,1;")
            // 304 would be "0" again, if it were cut to 8 bits, and 65584 in 16.
            .changesNothing(Case.INVALID, "type(31)", "type(127)", "type(304)", "type(65584)", "type(-48)")
            .is("fault(0)", Case.NONE);
        Case all = Case.of(TYPE, "Appends a character to the text.");
        for (int sign = 32; sign <= 126; sign++) {
            all.is("type(" + sign + ")", 1).is("clearText()", 1);
        }
    }

    private static void lengths() {
        Case.of(TYPE, "Returns the length of the text")
            .is("type(49)", 1).is("type(49)", 2).is("type(49)", 3).is("count(13)", 3)
            .does("clearText()").is("type(49)", 1);
    }

    private static void eighty() {
        Case full = Case.of(TYPE, "LIMIT_REACHED if it has 80 characters");
        for (int length = 1; length <= 80; length++) {
            full.is("type(65)", length);
        }
        full.are(Case.FULL, "type(65)", "type(32)", "type(126)").is("count(13)", 80)
            .is("clearText()", 80).is("type(65)", 1);
    }

    private static void emptied() {
        Case.of(CLEAR, "Empties the text.").types("12;").does("clearText()")
            .is("count(13)", 0).is("fault(0)", Case.NONE).is("play()", 0)
            .types("1,2,3,4;").is("fault(0)", Case.NONE).is("play()", 1);
        Case.of(CLEAR, "Empties the text.")
            // What stood behind the new text is no part of it any more.
            .types("1,2,3,4;").types("1,2,3,4").row("fault(?)", 0, FORM).is("play()", Case.NOT_POSSIBLE)
            .types("1,2,3,44n;").types("1,2,3,4").row("fault(?)", 0, FORM)
            .types("1,2,3,4;x").types("1,2,3,4;").is("fault(0)", Case.NONE).is("play()", 1);
    }

    private static void lengthItHad() {
        Case had = Case.of(CLEAR, "Returns the length it had.").is("clearText()", 0);
        for (int i = 0; i < 80; i++) {
            had.does("type(65)");
        }
        had.is("clearText()", 80).is("clearText()", 0).does("type(65)").is("clearText()", 1);
    }

    private static void faultArguments() {
        Case.of(FAULT, "`what`: 0: its position; 1: its reason").outside("fault(?)", 0, 1)
            .types("x").outside("fault(?)", 0, 1).row("fault(?)", 0, FORM);
    }

    private static void good(String sentence, String... texts) {
        for (String text : texts) {
            int events = text.length() - text.replace(";", "").length();
            Case.of(TERMS, sentence).types(text).are(Case.NONE, "fault(0)", "fault(1)")
                .is("play()", events).is("count(0)", events);
        }
    }

    /** A faulty event stands at the head, behind another event, and ahead of one. */
    private static void bad(String sentence, int reason, String... events) {
        for (String event : events) {
            Case.of(TERMS, sentence).types(event).row("fault(?)", 0, reason).is("play()", Case.NOT_POSSIBLE);
            Case.of(TERMS, sentence).types("62,2,2,2;" + event).row("fault(?)", 9, reason)
                .is("play()", Case.NOT_POSSIBLE).is("count(0)", 0);
            Case.of(TERMS, sentence).types("62,2,2,2;0061,0003,0003,-0003f;" + event + "60,4,4,4;")
                .row("fault(?)", 31, reason);
        }
    }

    private static void noFault() {
        Case.of(FAULT, "NOT_FOUND if the text has no fault").types("1,1,1,1;").are(Case.NONE, "fault(0)", "fault(1)");
        good("events, each followed by \";\": an id, \",\", a time, \",\", a key, \",\", an amount",
            "1,2,3,4;", "1,2,3,4;2,3,4,5;3,4,5,6;", "0,0,0,0;", "63,1999,5,100;");
    }

    private static void emptyHasNone() {
        Case.of(FAULT, "(also if it is empty)").are(Case.NONE, "fault(0)", "fault(1)")
            .types("x").is("fault(0)", 0)
            .does("clearText()").are(Case.NONE, "fault(0)", "fault(1)");
    }

    private static void commas() {
        bad("an id, \",\", a time, \",\", a key, \",\", an amount", FORM,
            "1;", "1,1;", "1,1,1;", "1,1,1,;", "1,,1,1;", ",1,1,1;", "1,1,,1;", "1,1,1,1,;", "1,1,1,1,1;", "1.1,1,1;",
            "1,1.1,1;", "1,1,1.1;", "1 1,1,1;", "1;1,1,1;", "1,1;1,1;", "1,1,1;1;", ",,,;", "11,1,1;");
    }

    private static void semicolons() {
        bad("events, each followed by \";\"", FORM, ";", "1,1,1,1:", "1,1,1,1n:", "1,1,1,1 ;", "1,1,1,1,", "1,1,1,1<");
        Case.of(TERMS, "its \";\" included (reason 1)").types("1,1,1,1").row("fault(?)", 0, FORM)
            .does("type(59)").is("fault(0)", Case.NONE)
            .does("type(59)").row("fault(?)", 8, FORM);
    }

    private static void minus() {
        good("an amount (which may have a \"-\" ahead of it)", "1,1,1,-1;", "1,1,1,-0;", "1,1,1,-100;", "1,1,1,-0100n;");
        bad("an amount (which may have a \"-\" ahead of it)", FORM,
            "-1,1,1,1;", "1,-1,1,1;", "1,1,-1,1;", "1,1,1,--1;", "1,1,1,-;", "1,1,1,1-;", "1,1,1,+1;", "1,1,1,- 1;",
            "1,1,1,-n;", "-0,1,1,1;");
    }

    private static void letters() {
        good("perhaps a letter for its excuse, \"n\" the net, \"i\" illness, \"f\" a feast",
            "1,1,1,1n;", "1,1,1,1i;", "1,1,1,1f;", "1,1,1,-1f;2,1,1,1;3,1,1,1n;");
        bad("perhaps a letter for its excuse, \"n\" the net, \"i\" illness, \"f\" a feast", FORM,
            "1,1,1,1x;", "1,1,1,1N;", "1,1,1,1I;", "1,1,1,1F;", "1,1,1,1nn;", "1,1,1,1ni;", "1,1,1,1in;", "1,1,1,1fi;",
            "1,1,1,n;", "1,1,1n,1;", "n1,1,1,1;", "1,1,1,1e;", "1,1,1,1g;", "1,1,1,1j;", "1,1,1,1m;", "1,1,1,n1;",
            "1,1,1,1 n;", "1,1,1,1n ;");
    }

    private static void digits() {
        good("numbers of 1 to 4 digits", "0,1,2,3;", "10,11,2,13;", "1,111,1,100;", "1,1111,1,1;");
        bad("numbers of 1 to 4 digits", FORM, "00001,1,1,1;", "1,00001,1,1;", "1,1,00001,1;", "1,1,1,00001;",
            "1,1,1,-00001;", "1,19990,1,1;", "12345,1,1,1;", "1,12345,1,1;", "1,1,12345,1;", "1,1,1,12345;",
            "1,1,1,-12345n;", "1,1,1,0000000001;", "1,4294967297,1,1;");
    }

    private static void zerosAhead() {
        good("0 ahead allowed", "0001,0001,0001,0001;", "00,01,001,0100;", "0063,0000,0005,-0099f;", "0000,0000,0000,0000;");
        Case.of("Promise 21, Texts", "0 ahead allowed").types("0010,0011,0005,0012;08,0,00,-09;").is("play()", 2)
            .row("eventOf(10, ?)", 11, 5, 12, 0, 0, 1)
            .row("eventOf(8, ?)", 0, 0, -9, 0, 0, 0);
    }

    private static void otherSigns() {
        bad("that is not of this form", FORM, " 1,1,1,1;", "a,1,1,1;", "/,1,1,1;", ":,1,1,1;", "1/,1,1,1;", "1:,1,1,1;",
            "1,1,1,1\";", "~;", "1, 1,1,1;", "1 ,1,1,1;", "1,1 ,1,1;", "1,1,1, 1;");
        bad("that is not of this form", FORM, "1,/,1,1;", "1,1,:,1;", "1,1,1,/;", "1,1,1,:;", "1,1,1,-:;");
    }

    private static void ids() {
        good("out of its range (reason 2)", "0,1,1,1;", "63,1,1,1;");
        bad("out of its range (reason 2)", NUMBER, "64,1,1,1;", "064,1,1,1;", "128,1,1,1;", "9999,1,1,1n;");
    }

    private static void times() {
        good("of which a number is out of its range", "1,0,1,1;", "1,1999,1,1;");
        bad("of which a number is out of its range", NUMBER, "1,2000,1,1;", "1,2000,1,1f;", "1,9999,1,1;");
    }

    private static void keys() {
        good("of which a number is out of its range", "1,1,0,1;", "1,1,5,1;");
        bad("of which a number is out of its range", NUMBER, "1,1,6,1;", "1,1,0006,1;", "1,1,32,1;", "1,1,9999,1;");
    }

    private static void amounts() {
        good("of which a number is out of its range", "1,1,1,100;", "1,1,1,-100;", "1,1,1,0;");
        bad("of which a number is out of its range", NUMBER, "1,1,1,101;", "1,1,1,-101;", "1,1,1,-0101i;", "1,1,1,9999;",
            "1,1,1,-9999;");
    }

    private static void formRatherThanNumber() {
        bad("or, if it is of this form, of which a number is out of its range", FORM, "64,1,1,1x;", "64,1,1;",
            "1,2000,1,1nn;", "1,1,6,1,;", "1,1,1,101 ;", "64,2000,6,101,;");
        Case.of(TERMS, "or, if it is of this form").types("64,1,1,1").row("fault(?)", 0, FORM)
            .does("type(59)").row("fault(?)", 0, NUMBER);
        Case.of(TERMS, "or, if it is of this form").types("64,2000,6,101n;").row("fault(?)", 0, NUMBER);
    }

    private static void firstEvent() {
        String sentence = "the position, from 0, of the first character of the first event that is not of this form";
        Case.of(TERMS, sentence).types("64,1,1,1;x;").row("fault(?)", 0, NUMBER);
        Case.of(TERMS, sentence).types("1,1,1,1;64,1,1,1;x;").row("fault(?)", 8, NUMBER);
        Case.of(TERMS, sentence).types("x;64,1,1,1;").row("fault(?)", 0, FORM);
        Case.of(TERMS, sentence).types("1,1,1,1;x;64,1,1,1;").row("fault(?)", 8, FORM);
        Case.of(TERMS, sentence).types("1,1,1,-1n;10,10,1,10;1,1,1,x;").row("fault(?)", 21, FORM);
    }

    private static void cutOff() {
        String whole = "0063,1999,0005,-0100n";
        Case head = Case.of(TERMS, "its \";\" included").types("1,1,1,1;").is("fault(0)", Case.NONE);
        for (int i = 0; i < whole.length(); i++) {
            head.does("type(" + (int) whole.charAt(i) + ")").row("fault(?)", 8, FORM).is("play()", Case.NOT_POSSIBLE);
        }
        head.does("type(59)").is("fault(0)", Case.NONE).is("play()", 2);
    }

    private static void greatestText() {
        String sentence = "There is a text of at most 80 characters";
        Case.of(TERMS, sentence).types("1,1,1,1;".repeat(10)).is("count(13)", 80).is("fault(0)", Case.NONE);
        Case.of(TERMS, sentence).types("1,1,1,1;".repeat(9) + "01,1,1,1").row("fault(?)", 72, FORM)
            .is("type(59)", Case.FULL).row("fault(?)", 72, FORM);
        Case.of(TERMS, sentence).types("1,1,1,1;".repeat(9) + "1,1,11,1").row("fault(?)", 72, FORM);
        Case.of(TERMS, sentence).types("1,1,1,1;".repeat(9) + "1,1,1,1").row("fault(?)", 72, FORM).is("count(13)", 79);
        Case.of(TERMS, sentence).types("1".repeat(80)).row("fault(?)", 0, FORM);
        Case.of(TERMS, sentence).types("1,1,1,1;".repeat(9) + "1,1,9,1;").row("fault(?)", 72, NUMBER);
    }

    private static void faultIsNoChange() {
        Case.of(FAULT, "Tells about the fault of the text.").types("1,1,1,1;x").does("fault(0)", "fault(1)")
            .is("count(12)", 0).is("count(13)", 9).is("count(0)", 0).is("fault(0)", 8);
    }

    private static void playStays() {
        Case.of(PLAY, "Lets all events of the text come, which stays.").types("1,1,1,1;2,2,2,2;")
            .is("play()", 2).is("count(13)", 16).is("fault(0)", Case.NONE).is("clearText()", 16);
    }

    private static void playIsOneChange() {
        Case.of(PLAY, "They are one change").types("1,50,1,1;2,90,2,2;3,91,3,3;1,1,1,1;")
            .does("set(1, 0)").is("play()", 3).is("count(12)", 2)
            .is("undo()", 1).is("count(0)", 0).is("count(4)", 0).is("count(6)", -1).is("count(21)", 0);
        Case.of(PLAY, "They are one change").types("1,50,1,1;2,90,2,2;3,91,3,3;4,92,1,1;5,93,1,1;")
            .does("set(1, 0)", "set(1, 1)", "set(1, 2)", "set(1, 3)").is("play()", 5).is("count(12)", 4)
            .is("undo()", 3).is("count(0)", 0).is("count(21)", 3)
            .is("undo()", 2).is("count(21)", 2);
    }

    private static void playOfNone() {
        Case.of(PLAY, "also if there are none").is("play()", 0).is("count(12)", 1).is("play()", 0).is("count(12)", 2)
            .is("undo()", 1).is("undo()", 0).is("undo()", Case.NOT_POSSIBLE);
    }

    private static void playWithFault() {
        Case.of(PLAY, "NOT_POSSIBLE if it has a fault").types("1,1,1,1;2,2,2,2")
            .changesNothing(Case.NOT_POSSIBLE, "play()")
            .does("type(59)").is("play()", 2);
        Case.of(PLAY, "NOT_POSSIBLE if it has a fault").types("1,1,1,1;2,2,6,2;")
            .changesNothing(Case.NOT_POSSIBLE, "play()").is("eventOf(1, 0)", Case.NONE);
        Case.of(PLAY, "NOT_POSSIBLE if it has a fault").types("x").is("play()", Case.NOT_POSSIBLE)
            .does("clearText()").is("play()", 0);
    }

    private static void playCounts() {
        Case.of(PLAY, "Returns how many of them count").settings(10, 0, 0)
            .types("1,50,1,1;2,49,1,1;3,49,1,1n;4,48,1,1;1,50,1,1;5,51,1,1;6,49,1,1;")
            // Answered 0, 2, 1, 0, 4, 0 and 3.
            .is("play()", 4)
            .row("count(?)", 6, 4, 1, 2, 1);
        Case.of(PLAY, "Returns how many of them count").settings(10, 0, 0)
            .does("event(0, 50, 0, 0, 0)").types("1,49,1,1;2,9,1,1i;").is("play()", 0)
            .row("count(?)", 3, 1, 0, 2, 0);
    }

    private static void playExcuses() {
        Case.of("Promise 21, Texts", "\"n\" the net, \"i\" illness, \"f\" a feast").settings(1, 0, 0)
            .types("1,50,1,1;2,49,1,1n;3,48,1,1i;4,6,1,1f;5,47,1,1;").is("play()", 4)
            .row("eventOf(?, 3)", Case.NONE, 0, 1, 2, 3, 0)
            .row("eventOf(?, 4)", Case.NONE, 0, 1, 1, 1, 2)
            .is("filed(0, 0)", 2).is("filed(1, 0)", 3).is("filed(2, 0)", 4);
    }

    private static void playNumbers() {
        Case.of(PLAY, "Lets all events of the text come").types("0,0,0,0;63,1999,5,100n;62,1998,4,-100f;")
            .is("play()", 3)
            .row("eventOf(0, ?)", 0, 0, 0, 0, 0, 0)
            .row("eventOf(63, ?)", 1999, 5, 100, 1, 0, 199)
            .row("eventOf(62, ?)", 1998, 4, -100, 3, 0, 199);
        Case.of(PLAY, "Lets all events of the text come").types("1,1234,1,12;2,1230,2,-98;").is("play()", 2)
            .row("eventOf(1, ?)", 1234, 1, 12, 0, 0, 123)
            .row("eventOf(2, ?)", 1230, 2, -98, 0, 0, 123);
    }

    private static void playInOrder() {
        Case.of(PLAY, "Lets all events of the text come").settings(10, 0, 0)
            .types("1,5,0,1;2,10,0,2;3,6,0,3n;4,11,0,4;5,7,0,5n;").is("play()", 4)
            .row("eventOf(?, 4)", Case.NONE, 0, 0, 1, 0, 3)
            .row("wordAt(?, 0)", 0, 1, 0, Case.NONE)
            .row("wordAt(?, 3)", 1, 1, 4, Case.NONE);
    }

    private static void playAgain() {
        Case.of(PLAY, "Returns how many of them count").types("1,5,0,1;2,10,0,2;").is("play()", 2)
            .is("play()", 0).is("count(4)", 2).is("count(0)", 2)
            .is("undo()", 1).is("count(4)", 0).is("undo()", 0).is("count(0)", 0)
            .is("play()", 2);
    }

    private static void playGreatest() {
        Case.of(PLAY, "Lets all events of the text come").types("1,1,1,1;2,1,1,1;3,1,1,1;4,1,1,1;5,1,1,1;"
                + "6,1,1,1;7,1,1,1;8,1,1,1;9,1,1,1;0,1,1,1;")
            .is("count(13)", 80).is("play()", 10).is("paneOf(0, 1)", 10).is("eventOf(0, 0)", 1)
            .is("count(12)", 1);
    }
}
