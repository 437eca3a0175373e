import java.lang.reflect.Constructor;
import java.lang.reflect.Field;
import java.lang.reflect.Member;
import java.lang.reflect.Method;
import java.lang.reflect.Modifier;
import java.util.ArrayList;
import java.util.List;

/** The public face, Promise 1, and what the terms say of a new object. */
public final class FaceTest {
    private static final String FACE = "Promise 1, The public face";
    private static final String CONSTANTS = "Promise 1, The constants";
    private static final String NEW = "Promise 1";

    private static final String[] MEMBERS = {
        "public static final int INVALID_ARGUMENT = -1000001;",
        "public static final int NOT_POSSIBLE = -1000002;",
        "public static final int LIMIT_REACHED = -1000003;",
        "public static final int NOT_FOUND = -1000004;",
        "public LateExcuses();",
        "public int set(int what, int value);",
        "public int event(int id, int time, int key, int amount, int excuse);",
        "public int move(int ticks);",
        "public int paneOf(int pane, int what);",
        "public int mean(int pane);",
        "public int standing(int pane, int what);",
        "public int nextPane(int pane);",
        "public int wordAt(int index, int what);",
        "public int eventOf(int id, int what);",
        "public int judge(int time, int key, int excuse);",
        "public int lateness(int time);",
        "public int latestExcused(int key, int excuse);",
        "public int filed(int cabinet, int place);",
        "public int trust(int key);",
        "public int count(int what);",
        "public int undo();",
        "public int type(int character);",
        "public int clearText();",
        "public int fault(int what);",
        "public int play();",
    };

    public static void main(String[] args) throws IllegalAccessException {
        classItself();
        members();
        constants();
        withoutEvents();
        withoutWordsAndExcuses();
        ownState();
        latestAtFirst();
        watermarkAtFirst();
        settingsAtFirst();
        textAtFirst();
        calls();
        Case.end();
    }

    private static void classItself() {
        Case whole = Case.of(FACE, "public final class LateExcuses {")
            .equal(LateExcuses.class.getModifiers(), Modifier.PUBLIC | Modifier.FINAL);
        // LANGUAGE.md, rule 1: the classes inside are private or package-visible, and static.
        for (Class<?> inside : LateExcuses.class.getDeclaredClasses()) {
            int shown = inside.getModifiers() & (Modifier.PUBLIC | Modifier.PROTECTED | Modifier.STATIC);
            whole.equal(shown, Modifier.STATIC);
        }
    }

    private static void members() throws IllegalAccessException {
        List<String> found = foundMembers();
        for (String member : MEMBERS) {
            Case.of(FACE, member).equal(found.contains(withoutNames(member)) ? 1 : 0, 1);
        }
        // LANGUAGE.md, rule 1: no other member can be seen from outside.
        Case.of(FACE, "public final class LateExcuses {").equal(found.size(), MEMBERS.length);
    }

    private static List<String> foundMembers() throws IllegalAccessException {
        List<String> found = new ArrayList<>();
        for (Field field : LateExcuses.class.getDeclaredFields()) {
            if (canBeSeen(field)) {
                String value = Modifier.isStatic(field.getModifiers()) ? " = " + field.get(null) : "";
                found.add(field.toString().replace("LateExcuses.", "") + value + ";");
            }
        }
        for (Constructor<?> constructor : LateExcuses.class.getDeclaredConstructors()) {
            if (canBeSeen(constructor)) {
                found.add(constructor.toString().replace(",", ", ") + ";");
            }
        }
        for (Method method : LateExcuses.class.getDeclaredMethods()) {
            if (canBeSeen(method)) {
                found.add(method.toString().replace("LateExcuses.", "").replace(",", ", ") + ";");
            }
        }
        return found;
    }

    private static boolean canBeSeen(Member member) {
        return !Modifier.isPrivate(member.getModifiers()) && !member.isSynthetic();
    }

    private static String withoutNames(String member) {
        return member.replaceAll("int \\w+(?=[,)])", "int");
    }

    private static void constants() {
        Case.of(CONSTANTS, "`INVALID_ARGUMENT = -1000001`").equal(LateExcuses.INVALID_ARGUMENT, -1000001);
        Case.of(CONSTANTS, "`NOT_POSSIBLE = -1000002`").equal(LateExcuses.NOT_POSSIBLE, -1000002);
        Case.of(CONSTANTS, "`LIMIT_REACHED = -1000003`").equal(LateExcuses.LIMIT_REACHED, -1000003);
        Case.of(CONSTANTS, "`NOT_FOUND = -1000004`").equal(LateExcuses.NOT_FOUND, -1000004);
    }

    private static void withoutEvents() {
        Case none = Case.of(NEW, "Creates a court without events.");
        for (int id = 0; id < 64; id++) {
            none.is("eventOf(" + id + ", 4)", Case.NONE);
        }
        none.row("count(?)", 0, 0, 0, 0, 0)
            .row("trust(?)", Case.NONE, Case.NONE, Case.NONE, Case.NONE, Case.NONE, Case.NONE)
            .row("paneOf(0, ?)", 0, 0, 0, 0, Case.NONE, 0, 0)
            .row("paneOf(199, ?)", 0, 0, 0, 0, Case.NONE, 0, 0)
            .are(Case.NONE, "mean(0)", "nextPane(-1)", "lateness(0)", "standing(0, 0)");
    }

    private static void withoutWordsAndExcuses() {
        Case.of(NEW, "Creates a court")
            .is("wordAt(0, 0)", Case.NONE)
            .row("filed(0, ?)", Case.NONE, Case.NONE, Case.NONE, Case.NONE)
            .row("filed(1, ?)", Case.NONE, Case.NONE, Case.NONE, Case.NONE)
            .row("filed(2, ?)", Case.NONE, Case.NONE, Case.NONE, Case.NONE)
            .are(0, "count(7)", "count(8)", "count(9)", "count(10)", "count(11)", "count(12)")
            .is("undo()", Case.NOT_POSSIBLE);
    }

    private static void ownState() {
        Case first = Case.of(NEW, "`LateExcuses()`");
        first.does("set(0, 1)", "event(3, 50, 0, 1, 0)", "event(4, 49, 0, 1, 1)", "type(49)");
        Case.of(NEW, "`LateExcuses()`")
            .are(0, "count(0)", "count(8)", "count(12)", "count(13)")
            .is("count(20)", 10)
            .is("filed(0, 0)", Case.NONE);
        first.is("count(0)", 2);
    }

    private static void latestAtFirst() {
        Case.of("Promise 1, Panes and the watermark", "The latest time is the greatest time of all "
                + "events so far that were not double, -1 at first").is("count(6)", -1);
    }

    private static void watermarkAtFirst() {
        Case.of("Promise 1, Panes and the watermark", "the watermark is -1 at first")
            .is("count(5)", -1)
            .are(0, "paneOf(0, 0)", "judge(0, 0, 0)");
    }

    private static void settingsAtFirst() {
        Case.of("Promise 1, Settings", "The settings are (in parentheses: range; first value)")
            .is("count(20)", 10)
            .is("count(21)", 5)
            .is("count(22)", 10);
    }

    private static void textAtFirst() {
        Case.of("Promise 1, Texts", "There is a text of at most 80 characters, initially empty")
            .is("count(13)", 0)
            .is("clearText()", 0);
    }

    private static void calls() {
        Case many = Case.of("Promise 1, What it is",
                "An object is used for at most 512 calls after it has been made");
        many.does("set(0, 1)", "set(1, 0)");
        for (int id = 0; id < 64; id++) {
            many.is("event(" + id + ", " + id + ", 0, 1, 0)", 0);
        }
        for (int times = 1; times <= 445; times++) {
            many.is("event(0, 1999, 0, 1, 0)", 4);
        }
        many.is("count(4)", 445);
    }
}
