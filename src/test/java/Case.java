import java.util.ArrayList;
import java.util.List;

/**
 * One test of one sentence of ../shared/DOC.md: it says for which promise and for which sentence
 * it is, and makes calls on a new object, each with the answer that is due. A call is a text, as
 * it would stand in Java, so that every answer that is not the one due is printed with its call.
 */
final class Case {
    static final int INVALID = -1000001;
    static final int NOT_POSSIBLE = -1000002;
    static final int FULL = -1000003;
    static final int NONE = -1000004;

    /** The document promises nothing of later calls. */
    private static final int MOST_CALLS = 512;

    /** Numbers that are out of nearly all ranges, or come back into them if they wrap around. */
    private static final int[] FAR = {Integer.MIN_VALUE, Integer.MIN_VALUE + 1, -65536, -256, -101, -64, -32, 32,
        256, 2000, 4096, 65536, 1 << 24, 1 << 30, Integer.MAX_VALUE - 1, Integer.MAX_VALUE};

    private static final List<Case> CASES = new ArrayList<>();
    private static int wrong = 0;

    private final String about;
    private final LateExcuses court = new LateExcuses();
    private int calls = 0;
    private int looks = 0;

    private Case(String about) {
        this.about = about;
    }

    static Case of(String promise, String sentence) {
        Case made = new Case(promise + ": \"" + sentence + "\"");
        CASES.add(made);
        return made;
    }

    /** Ends the program, with exit code 1 if an answer was not the one due. */
    static void end() {
        for (Case made : CASES) {
            if (made.looks == 0) {
                made.complain("nothing is looked at");
            }
        }
        System.out.println(CASES.size() + " sentences, " + wrong + " answers that are not due");
        System.exit(wrong == 0 ? 0 : 1);
    }

    /** The answer of a call is this one. */
    Case is(String call, int want) {
        looks++;
        String got = answer(call);
        if (!got.equals("" + want)) {
            complain(call + " answered " + got + ", due is " + want);
        }
        return this;
    }

    Case equal(int got, int want) {
        looks++;
        if (got != want) {
            complain("is " + got + ", due is " + want);
        }
        return this;
    }

    Case isFloat(String call, float want) {
        return is(call, Float.floatToIntBits(want));
    }

    /** The answers of all calls are this one. */
    Case are(int want, String... all) {
        for (String call : all) {
            is(call, want);
        }
        return this;
    }

    /** The answers of a call with 0, 1, 2 and so on for its "?" are these. */
    Case row(String call, int... wants) {
        for (int i = 0; i < wants.length; i++) {
            is(call.replace("?", "" + i), wants[i]);
        }
        return this;
    }

    /** A number for the "?" is refused if it is not from least to most, be it near or far. */
    Case outside(String call, int least, int most) {
        is(call.replace("?", "" + (least - 1)), INVALID);
        is(call.replace("?", "" + (most + 1)), INVALID);
        for (int far : FAR) {
            if (far < least - 1 || far > most + 1) {
                is(call.replace("?", "" + far), INVALID);
            }
        }
        return this;
    }

    /** The calls are made, and none of them is refused. */
    Case does(String... all) {
        for (String call : all) {
            String got = answer(call);
            if (got.startsWith("-100000")) {
                complain(call + " was refused by " + got);
            }
        }
        return this;
    }

    Case settings(int size, int lag, int grace) {
        return does("set(0, " + size + ")", "set(1, " + lag + ")", "set(2, " + grace + ")");
    }

    /** The text is this one. */
    Case types(String text) {
        does("clearText()");
        for (int i = 0; i < text.length(); i++) {
            does("type(" + (int) text.charAt(i) + ")");
        }
        return this;
    }

    /** The refused calls are refused so, and no answer is another one behind them. */
    Case changesNothing(int refusal, String... refused) {
        String before = answers();
        are(refusal, refused);
        String after = answers();
        if (!before.equals(after)) {
            complain(String.join(", ", refused) + " changed " + before + " to " + after);
        }
        return this;
    }

    private String answers() {
        StringBuilder all = new StringBuilder();
        for (int what = 0; what < 23; what++) {
            all.append(answer("count(" + what + ")")).append(' ');
        }
        for (int i = 0; i < 4; i++) {
            all.append(answer("paneOf(0, " + i + ")")).append(' ');
            all.append(answer("paneOf(1, " + i + ")")).append(' ');
            all.append(answer("wordAt(" + i + ", 1)")).append(' ');
            all.append(answer("eventOf(" + i + ", 4)")).append(' ');
            all.append(answer("filed(0, " + i + ")")).append(' ');
            all.append(answer("filed(1, " + i + ")")).append(' ');
            all.append(answer("filed(2, " + i + ")")).append(' ');
            all.append(answer("trust(" + i + ")")).append(' ');
        }
        return all.toString();
    }

    private void complain(String fault) {
        wrong++;
        System.out.println(about + ": " + fault);
    }

    private String answer(String call) {
        calls++;
        if (calls > MOST_CALLS) {
            complain("is more than " + MOST_CALLS + " calls long");
        }
        try {
            return "" + make(call);
        } catch (RuntimeException thrown) {
            return "nothing, it threw " + thrown;
        }
    }

    private int make(String call) {
        int open = call.indexOf('(');
        String inside = call.substring(open + 1, call.length() - 1);
        String[] parts = inside.isEmpty() ? new String[0] : inside.split(", ");
        int[] a = new int[parts.length];
        for (int i = 0; i < a.length; i++) {
            a[i] = Integer.parseInt(parts[i]);
        }
        return make(call.substring(0, open) + "/" + a.length, a);
    }

    private int make(String name, int[] a) {
        switch (name) {
            case "set/2":
                return court.set(a[0], a[1]);
            case "event/5":
                return court.event(a[0], a[1], a[2], a[3], a[4]);
            case "move/1":
                return court.move(a[0]);
            case "paneOf/2":
                return court.paneOf(a[0], a[1]);
            case "mean/1":
                return court.mean(a[0]);
            case "standing/2":
                return court.standing(a[0], a[1]);
            case "nextPane/1":
                return court.nextPane(a[0]);
            case "wordAt/2":
                return court.wordAt(a[0], a[1]);
            case "eventOf/2":
                return court.eventOf(a[0], a[1]);
            case "judge/3":
                return court.judge(a[0], a[1], a[2]);
            case "lateness/1":
                return court.lateness(a[0]);
            case "latestExcused/2":
                return court.latestExcused(a[0], a[1]);
            case "filed/2":
                return court.filed(a[0], a[1]);
            case "trust/1":
                return court.trust(a[0]);
            case "count/1":
                return court.count(a[0]);
            case "undo/0":
                return court.undo();
            case "type/1":
                return court.type(a[0]);
            case "clearText/0":
                return court.clearText();
            case "fault/1":
                return court.fault(a[0]);
            case "play/0":
                return court.play();
            default:
                throw new IllegalArgumentException(name + " is no call of the face");
        }
    }
}
