import java.util.ArrayList;
import java.util.List;

/**
 * A run of calls on one new object, under the sentence of the document that it tests. Every call
 * that is refused in it is also looked at for what it leaves behind (see Afterwards).
 */
final class Script {
    /** What an object answers after so many calls is free, so no test may lean on it. */
    static final int MOST_CALLS = 512;

    private static final String NUMBER = "#";

    private final Check check;
    private final String sentence;
    private final IssueRows rows = new IssueRows();
    private final List<String> run = new ArrayList<>();

    Script(Check check, String sentence) {
        this.check = check;
        this.sentence = sentence;
    }

    /** Calls that only make ready: none of them may be refused. */
    Script made(String... calls) {
        for (String call : calls) {
            int got = make(call);
            if (got < 0) {
                fail(call + " makes ready and is refused: " + Calls.name(got));
            }
        }
        return this;
    }

    /** The same call for every number from one to another, which # stands for. */
    Script madeFor(int from, int to, String call) {
        for (int number = from; number <= to; number++) {
            made(with(call, number));
        }
        return this;
    }

    /** An issue more, HERE on its own day 0, so that it leaves no note. */
    Script here(int pattern, int ordinal) {
        int number = make("issue " + pattern + " " + ordinal + " 0");
        return made("checkIn " + number + " 1 0");
    }

    Script due(String call, int want) {
        int got = make(call);
        if (got != want) {
            fail(call + " answered " + Calls.name(got) + ", due is " + Calls.name(want));
        }
        return this;
    }

    /** A read with several whats, from 0 on. */
    Script each(String call, int... wants) {
        for (int what = 0; what < wants.length; what++) {
            due(call + " " + what, wants[what]);
        }
        return this;
    }

    Script none(String call, int... numbers) {
        return refused(IssueRows.NONE, call, numbers);
    }

    Script range(String call, int... numbers) {
        return refused(IssueRows.RANGE, call, numbers);
    }

    Script state(String call, int... numbers) {
        return refused(IssueRows.STATE, call, numbers);
    }

    Script full(String call, int... numbers) {
        return refused(IssueRows.FULL, call, numbers);
    }

    Script throwing(String call, int... numbers) {
        return refused(Calls.THROWS, call, numbers);
    }

    private Script refused(int reason, String call, int... numbers) {
        if (!call.contains(NUMBER)) {
            return refusedOnce(reason, call);
        }
        for (int number : numbers) {
            refusedOnce(reason, with(call, number));
        }
        refusedOnce(reason, with(call, Integer.MIN_VALUE));
        return refusedOnce(reason, with(call, Integer.MAX_VALUE));
    }

    private Script refusedOnce(int reason, String call) {
        List<String> before = new ArrayList<>(run);
        due(call, reason);
        String left = Afterwards.difference(before, call);
        if (left != null) {
            fail(call + " is refused, but afterwards " + left);
        }
        return this;
    }

    private static String with(String call, int number) {
        return call.replace(NUMBER, Integer.toString(number));
    }

    private int make(String call) {
        run.add(call);
        if (run.size() == MOST_CALLS + 1) {
            fail("has more than " + MOST_CALLS + " calls");
        }
        return Calls.make(rows, call);
    }

    private void fail(String text) {
        check.fail("[" + sentence + "] call " + run.size() + ": " + text);
    }
}
