/** Promises 4 (checkIn), 17 (told) and 18 (lateness). */
public final class CheckInTest {
    private static final Check CHECK = new Check("CheckInTest");

    public static void main(String[] args) {
        edges();
        answersAndNotes();
        missingIsTold();
        states();
        hundredNotes();
        wrongTold();
        latenessOfAll();
        latenessIsGreat();
        CHECK.end();
    }

    private static void edges() {
        IssueRows x = new IssueRows();
        CHECK.due("none yet", x.checkIn(0, 1, 1), IssueRows.NONE);
        for (int ordinal = 1; ordinal <= 4; ordinal++) {
            x.issue(0, ordinal, 50);
        }
        CHECK.due("issue -1", x.checkIn(-1, 1, 1), IssueRows.NONE);
        CHECK.due("issue 4", x.checkIn(4, 1, 1), IssueRows.NONE);
        CHECK.due("NONE counts before RANGE", x.checkIn(4, 0, -1), IssueRows.NONE);
        CHECK.due("copies 0", x.checkIn(0, 0, 1), IssueRows.RANGE);
        CHECK.due("copies 100", x.checkIn(0, 100, 1), IssueRows.RANGE);
        CHECK.due("day -1", x.checkIn(0, 1, -1), IssueRows.RANGE);
        CHECK.due("day 1000001", x.checkIn(0, 1, 1000001), IssueRows.RANGE);
        CHECK.due("refused ones change nothing", x.about(0, 2), 1);
        CHECK.due("refused ones tell nothing", x.told(0, 0), IssueRows.NONE);
        CHECK.due("least", x.checkIn(0, 1, 0), 1);
        CHECK.due("greatest", x.checkIn(1, 99, 1000000), 1);
        CHECK.due("copies", x.about(1, 5), 99);
        CHECK.due("day", x.about(1, 6), 1000000);
        CHECK.due("day 0", x.about(0, 6), 0);
        CHECK.due("RANGE counts before STATE", x.checkIn(0, 0, 0), IssueRows.RANGE);
        CHECK.due("STATE", x.checkIn(0, 1, 0), IssueRows.STATE);
    }

    private static void answersAndNotes() {
        IssueRows x = new IssueRows();
        x.issue(0, 1, -1);
        x.issue(0, 2, 50);
        x.issue(0, 3, 50);
        x.issue(0, 4, 50);
        x.issue(0, 5, 10);
        x.issue(0, 6, 10);
        CHECK.due("UNASKED", x.checkIn(0, 1, 999), 0);
        CHECK.due("on its day", x.checkIn(1, 1, 50), 1);
        CHECK.due("early", x.checkIn(2, 1, 49), 1);
        CHECK.due("late", x.checkIn(3, 1, 51), 1);
        x.claim(40);
        CHECK.due("claimed, early", x.checkIn(4, 1, 9), 1);
        CHECK.due("claimed, late", x.checkIn(5, 1, 11), 1);
        int[] want = {1, 0, 2, 3, 2, 5};
        for (int i = 0; i < want.length; i++) {
            CHECK.due("note " + i / 2 + ", " + i % 2, x.told(i / 2, i % 2), want[i]);
        }
        CHECK.due("no more notes", x.told(3, 0), IssueRows.NONE);
        for (int i = 0; i < 6; i++) {
            CHECK.due("HERE", x.about(i, 2), 3);
        }
    }

    private static void missingIsTold() {
        IssueRows x = new IssueRows();
        x.rule(0, 1, 1, 0);
        x.issue(0, 1, 10);
        x.issue(0, 2, 10);
        x.claim(11);
        CHECK.due("late", x.checkIn(1, 3, 20), 1);
        CHECK.due("on its day", x.checkIn(0, 3, 10), 1);
        int[] want = {3, 0, 3, 1, 2, 1, 2, 0};
        for (int i = 0; i < want.length; i++) {
            CHECK.due("note " + i / 2 + ", " + i % 2, x.told(i / 2, i % 2), want[i]);
        }
        CHECK.due("lateness", x.lateness(0), 10);
    }

    private static void states() {
        IssueRows x = new IssueRows();
        Check.here(x, 0, 1, 0, 0);
        Check.here(x, 0, 2, 0, 0);
        x.replace(1, 0);
        x.bind(0, 1);
        CHECK.due("BOUND", x.checkIn(0, 1, 0), IssueRows.STATE);
        CHECK.due("GONE", x.checkIn(1, 1, 0), IssueRows.STATE);
        CHECK.due("a replacement", x.checkIn(2, 1, 0), IssueRows.STATE);
    }

    private static void hundredNotes() {
        IssueRows x = new IssueRows();
        for (int i = 0; i < 101; i++) {
            x.issue(0, i + 1, -1);
            CHECK.due("checkIn", x.checkIn(i, 1, 0), 0);
        }
        CHECK.due("the last note", x.told(99, 0), 1);
        CHECK.due("its issue", x.told(99, 1), 99);
        CHECK.due("one more is lost", x.told(100, 0), IssueRows.NONE);
        CHECK.due("the first note", x.told(0, 1), 0);
        CHECK.due("the call counts all the same", x.about(100, 2), 3);
    }

    private static void wrongTold() {
        IssueRows x = new IssueRows();
        x.issue(0, 1, -1);
        x.checkIn(0, 1, 0);
        CHECK.due("told(-1, 0)", x.told(-1, 0), IssueRows.NONE);
        CHECK.due("told(1, 0)", x.told(1, 0), IssueRows.NONE);
        CHECK.due("told(0, -1)", x.told(0, -1), IssueRows.NONE);
        CHECK.due("told(0, 2)", x.told(0, 2), IssueRows.NONE);
        CHECK.due("told(MIN, 0)", x.told(Integer.MIN_VALUE, 0), IssueRows.NONE);
        CHECK.due("told(MAX, 1)", x.told(Integer.MAX_VALUE, 1), IssueRows.NONE);
    }

    private static void latenessOfAll() {
        IssueRows x = new IssueRows();
        CHECK.due("lateness(-1)", x.lateness(-1), IssueRows.NONE);
        CHECK.due("lateness(10)", x.lateness(10), IssueRows.NONE);
        Check.here(x, 0, 1, 10, 15);
        Check.here(x, 0, 2, 10, 5);
        Check.here(x, 0, 3, -1, 500);
        Check.here(x, 0, 4, 10, 13);
        Check.here(x, 9, 1, 0, 1000);
        CHECK.due("late ones alone", x.lateness(0), 8);
        CHECK.due("of pattern 9", x.lateness(9), 1000);
        CHECK.due("of pattern 1", x.lateness(1), 0);
        x.replace(0, 700);
        CHECK.due("GONE ones were HERE, replacements do not count", x.lateness(0), 8);
        x.bind(0, 4);
        CHECK.due("BOUND ones were HERE", x.lateness(0), 8);
        x.rule(1, 1, 1, 0);
        x.issue(1, 1, 0);
        x.claim(100);
        CHECK.due("MISSING ones never were", x.lateness(1), 0);
        x.replace(6, 100);
        CHECK.due("nor when they are GONE", x.lateness(1), 0);
    }

    private static void latenessIsGreat() {
        IssueRows x = new IssueRows();
        for (int i = 0; i < 200; i++) {
            Check.here(x, 0, i + 1, 0, 1000000);
        }
        CHECK.due("200 issues", x.lateness(0), 200000000);
    }
}
