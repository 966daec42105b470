/** Promises 3 (issue), 15 (about) and 16 (cost). */
public final class IssueTest {
    private static final Check CHECK = new Check("IssueTest");

    public static void main(String[] args) {
        numbersAndEdges();
        sameOrdinal();
        twoHundred();
        aboutNewOnes();
        aboutALife();
        costs();
        CHECK.end();
    }

    private static void numbersAndEdges() {
        IssueRows x = new IssueRows();
        CHECK.due("pattern -1", x.issue(-1, 1, 1), IssueRows.NONE);
        CHECK.due("pattern 10", x.issue(10, 1, 1), IssueRows.NONE);
        CHECK.due("NONE counts before RANGE", x.issue(10, 0, -2), IssueRows.NONE);
        CHECK.due("ordinal 0", x.issue(0, 0, 1), IssueRows.RANGE);
        CHECK.due("ordinal 10000", x.issue(0, 10000, 1), IssueRows.RANGE);
        CHECK.due("day -2", x.issue(0, 1, -2), IssueRows.RANGE);
        CHECK.due("day 1000001", x.issue(0, 1, 1000001), IssueRows.RANGE);
        CHECK.due("least", x.issue(0, 1, 0), 0);
        CHECK.due("greatest", x.issue(9, 9999, 1000000), 1);
        CHECK.due("UNASKED", x.issue(9, 1, -1), 2);
    }

    private static void sameOrdinal() {
        IssueRows x = new IssueRows();
        x.issue(0, 5, 1);
        CHECK.due("the same", x.issue(0, 5, 2), IssueRows.STATE);
        CHECK.due("RANGE counts before STATE", x.issue(0, 5, -2), IssueRows.RANGE);
        CHECK.due("of another pattern", x.issue(1, 5, 2), 1);
        x.checkIn(0, 1, 1);
        x.replace(0, 1);
        CHECK.due("of a replaced one", x.issue(0, 5, 2), IssueRows.STATE);
        x.bind(0, 1);
        CHECK.due("of a bound one", x.issue(0, 5, 2), IssueRows.STATE);
    }

    private static void twoHundred() {
        IssueRows x = new IssueRows();
        for (int i = 0; i < 200; i++) {
            CHECK.due("an issue more", x.issue(i % 10, 9999 - i, i), i);
        }
        CHECK.due("one too many", x.issue(0, 1, 1), IssueRows.FULL);
        CHECK.due("STATE counts before FULL", x.issue(0, 9999, 1), IssueRows.STATE);
        CHECK.due("RANGE counts before FULL", x.issue(0, 0, 1), IssueRows.RANGE);
        CHECK.due("NONE counts before FULL", x.issue(10, 1, 1), IssueRows.NONE);
        CHECK.due("the last", x.about(199, 1), 9800);
        CHECK.due("none behind it", x.about(200, 1), IssueRows.NONE);
        CHECK.due("all are claimed", x.claim(1000000), 200);
        CHECK.due("the last claim", x.claimed(199, 0), 199);
        CHECK.dueThrow("none behind it", () -> x.claimed(200, 0));
    }

    private static void aboutAll(IssueRows x, String when, int issue, int... want) {
        for (int what = 0; what <= 10; what++) {
            CHECK.due(when + ": about(" + issue + ", " + what + ")", x.about(issue, what), want[what]);
        }
        CHECK.due("what -1", x.about(issue, -1), IssueRows.NONE);
        CHECK.due("what 11", x.about(issue, 11), IssueRows.NONE);
    }

    private static void aboutNewOnes() {
        IssueRows x = new IssueRows();
        x.issue(3, 17, 250);
        x.issue(4, 18, -1);
        aboutAll(x, "expected", 0, 3, 17, 1, 250, 0, 0, -1, -1, -1, -1, 0);
        aboutAll(x, "unasked", 1, 4, 18, 0, -1, 0, 0, -1, -1, -1, -1, 0);
        CHECK.due("issue -1", x.about(-1, 0), IssueRows.NONE);
        CHECK.due("issue 2", x.about(2, 0), IssueRows.NONE);
        CHECK.due("issue MAX", x.about(Integer.MAX_VALUE, 0), IssueRows.NONE);
        CHECK.due("issue MIN", x.about(Integer.MIN_VALUE, 0), IssueRows.NONE);
    }

    private static void aboutALife() {
        IssueRows x = new IssueRows();
        x.issue(3, 17, 250);
        x.claim(280);
        aboutAll(x, "claimed", 0, 3, 17, 2, 250, 1, 0, -1, -1, -1, -1, 0);
        x.checkIn(0, 4, 290);
        x.list(0, 999, 3);
        aboutAll(x, "here", 0, 3, 17, 3, 250, 1, 4, 290, -1, -1, -1, 0);
        x.route(0, 291);
        x.cost(0, 12);
        aboutAll(x, "routed", 0, 3, 17, 3, 250, 1, 4, 290, 999, -1, -1, 12);
        x.returned(0, 292);
        x.replace(0, 300);
        aboutAll(x, "gone", 0, 3, 17, 6, 250, 1, 4, 290, -1, -1, 1, 12);
        aboutAll(x, "its replacement", 1, 3, 17, 3, 250, 0, 1, 300, -1, -1, -1, 0);
        x.bind(3, 1);
        aboutAll(x, "bound", 1, 3, 17, 5, 250, 0, 1, 300, -1, 0, -1, 0);
        aboutAll(x, "gone still", 0, 3, 17, 6, 250, 1, 4, 290, -1, -1, 1, 12);
    }

    private static void costs() {
        IssueRows x = new IssueRows();
        CHECK.due("none yet", x.cost(0, 1), IssueRows.NONE);
        x.issue(0, 1, 1);
        CHECK.due("issue -1", x.cost(-1, 1), IssueRows.NONE);
        CHECK.due("NONE counts before RANGE", x.cost(1, -1), IssueRows.NONE);
        CHECK.due("cents -1", x.cost(0, -1), IssueRows.RANGE);
        CHECK.due("cents 10000001", x.cost(0, 10000001), IssueRows.RANGE);
        CHECK.due("cents 0", x.cost(0, 0), 0);
        CHECK.due("cents 1", x.cost(0, 1), 1);
        for (int i = 1; i <= 99; i++) {
            CHECK.due("cents more", x.cost(0, 10000000), i * 10000000 + 1);
        }
        CHECK.due("too much by one", x.cost(0, 10000000), IssueRows.FULL);
        CHECK.due("RANGE counts before FULL", x.cost(0, 10000001), IssueRows.RANGE);
        CHECK.due("refused ones change nothing", x.about(0, 10), 990000001);
        CHECK.due("up to the limit", x.cost(0, 9999999), 1000000000);
        CHECK.due("nothing more", x.cost(0, 0), 1000000000);
        CHECK.due("one more", x.cost(0, 1), IssueRows.FULL);
        CHECK.due("cents", x.about(0, 10), 1000000000);
    }
}
