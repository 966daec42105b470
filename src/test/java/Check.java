import java.util.function.IntSupplier;

/** Counts and prints the answers that are not as due. */
final class Check {
    private final String test;
    private int wrong = 0;

    Check(String test) {
        this.test = test;
    }

    void due(String call, int got, int want) {
        if (got != want) {
            fail(call + " answered " + got + ", due is " + want);
        }
    }

    void dueThrow(String call, IntSupplier made) {
        int got;
        try {
            got = made.getAsInt();
        } catch (IndexOutOfBoundsException e) {
            // The machine throws subclasses of it, which the program must never let happen.
            if (e.getClass() != IndexOutOfBoundsException.class) {
                fail(call + " let the machine throw " + e);
            }
            return;
        }
        fail(call + " answered " + got + ", due is IndexOutOfBoundsException");
    }

    void fail(String text) {
        wrong++;
        System.out.println(test + ": " + text);
    }

    void end() {
        if (wrong != 0) {
            System.out.println(test + ": " + wrong + " wrong");
            System.exit(1);
        }
    }

    /** What a new object needs before an issue can be routed, replaced or bound. */
    static int here(IssueRows x, int pattern, int ordinal, int expected, int day) {
        int number = x.issue(pattern, ordinal, expected);
        x.checkIn(number, 1, day);
        return number;
    }
}
