import java.lang.reflect.Constructor;
import java.lang.reflect.Field;
import java.lang.reflect.Method;
import java.lang.reflect.Modifier;
import java.util.Arrays;
import java.util.TreeSet;

/** The face of the document, no more and no less, and promise 1: a new object. */
public final class FaceTest {
    private static final String[] FACE = {
        "about/2", "bind/2", "checkIn/3", "claim/1", "claimed/2!", "cost/2", "issue/3", "lateness/1",
        "list/3", "replace/2", "returned/2", "route/2", "row/2!", "rule/4", "statement/1", "told/2", "volume/2!",
    };

    public static void main(String[] args) {
        Check check = new Check("FaceTest");
        methods(check);
        constants(check);
        constructor(check);
        newObject(check);
        check.end();
    }

    private static void methods(Check check) {
        TreeSet<String> seen = new TreeSet<>();
        TreeSet<String> hidden = new TreeSet<>();
        for (Method m : IssueRows.class.getDeclaredMethods()) {
            if (m.isSynthetic()) {
                continue;
            }
            if (Modifier.isPrivate(m.getModifiers())) {
                hidden.add(m.getName());
                continue;
            }
            boolean throwing = Arrays.equals(m.getExceptionTypes(), new Class<?>[] {IndexOutOfBoundsException.class});
            seen.add(m.getName() + "/" + m.getParameterCount() + (throwing ? "!" : ""));
            check.due(m.getName() + " is public, not static, of int", isPlainInt(m) ? 1 : 0, 1);
        }
        if (!seen.equals(new TreeSet<>(Arrays.asList(FACE)))) {
            check.fail("the face is " + seen);
        }
        for (String name : seen) {
            if (hidden.contains(name.substring(0, name.indexOf('/')))) {
                check.fail("a private method bears the name of " + name);
            }
        }
    }

    private static boolean isPlainInt(Method m) {
        boolean ints = Arrays.stream(m.getParameterTypes()).allMatch(t -> t == int.class);
        return ints && m.getReturnType() == int.class && m.getModifiers() == Modifier.PUBLIC;
    }

    private static void constants(Check check) {
        check.due("NONE", IssueRows.NONE, -1);
        check.due("RANGE", IssueRows.RANGE, -2);
        check.due("STATE", IssueRows.STATE, -3);
        check.due("FULL", IssueRows.FULL, -4);
        int open = 0;
        for (Field f : IssueRows.class.getDeclaredFields()) {
            if (!Modifier.isPrivate(f.getModifiers()) && !f.isSynthetic()) {
                open++;
            }
        }
        check.due("fields that are not private", open, 4);
    }

    private static void constructor(Check check) {
        Constructor<?>[] all = IssueRows.class.getDeclaredConstructors();
        check.due("constructors", all.length, 1);
        check.due("the constructor is public", all[0].getModifiers(), Modifier.PUBLIC);
        check.due("the class is public and final", IssueRows.class.getModifiers(), Modifier.PUBLIC | Modifier.FINAL);
    }

    private static void newObject(Check check) {
        IssueRows x = new IssueRows();
        for (int what = -1; what <= 11; what++) {
            check.due("about(0, " + what + ")", x.about(0, what), IssueRows.NONE);
        }
        check.due("told(0, 0)", x.told(0, 0), IssueRows.NONE);
        check.due("told(0, 1)", x.told(0, 1), IssueRows.NONE);
        check.dueThrow("claimed(0, 0)", () -> x.claimed(0, 0));
        check.dueThrow("row(0, 0)", () -> x.row(0, 0));
        check.dueThrow("volume(0, 0)", () -> x.volume(0, 0));
        for (int pattern = 0; pattern < 10; pattern++) {
            check.due("lateness", x.lateness(pattern), 0);
            check.due("statement", x.statement(pattern), 0);
            check.due("bind", x.bind(pattern, 1), IssueRows.STATE);
        }
        check.dueThrow("row(0, 0) of an empty statement", () -> x.row(0, 0));
        check.due("claim(1000000)", x.claim(1000000), 0);
        check.due("the first issue", x.issue(0, 1, 0), 0);
        check.due("an object has its own issues", new IssueRows().about(0, 0), IssueRows.NONE);
    }
}
