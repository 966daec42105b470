/** Promise 10 (replace). */
public final class ReplaceTest {
    private static final Check CHECK = new Check("ReplaceTest");

    public static void main(String[] args) {
        edges();
        states();
        whileSomebodyHasIt();
        replacement();
        chain();
        noRoom();
        CHECK.end();
    }

    private static void edges() {
        IssueRows x = new IssueRows();
        CHECK.due("none yet", x.replace(0, 1), IssueRows.NONE);
        Check.here(x, 0, 1, 0, 0);
        CHECK.due("issue -1", x.replace(-1, 1), IssueRows.NONE);
        CHECK.due("NONE counts before RANGE", x.replace(1, -1), IssueRows.NONE);
        CHECK.due("day -1", x.replace(0, -1), IssueRows.RANGE);
        CHECK.due("day 1000001", x.replace(0, 1000001), IssueRows.RANGE);
        CHECK.due("refused ones change nothing", x.about(0, 2), 3);
        CHECK.due("refused ones add nothing", x.about(1, 2), IssueRows.NONE);
        CHECK.due("day 1000000", x.replace(0, 1000000), 1);
        CHECK.due("day 0", x.replace(1, 0), 2);
    }

    private static void states() {
        IssueRows x = new IssueRows();
        x.issue(0, 1, -1);
        CHECK.due("UNASKED", x.replace(0, 1), IssueRows.STATE);
        x.issue(0, 2, 0);
        CHECK.due("EXPECTED", x.replace(1, 1), IssueRows.STATE);
        CHECK.due("RANGE counts before STATE", x.replace(1, -1), IssueRows.RANGE);
        x.claim(30);
        CHECK.due("CLAIMED", x.replace(1, 1), IssueRows.STATE);
        x.rule(0, 1, 1, 1);
        x.claim(31);
        CHECK.due("MISSING", x.replace(1, 1), 2);
        CHECK.due("GONE", x.replace(1, 1), IssueRows.STATE);
        CHECK.due("it never came", x.about(1, 6), -1);
        x.bind(0, 1);
        CHECK.due("BOUND", x.replace(2, 1), IssueRows.STATE);
        x.checkIn(0, 1, 5);
        CHECK.due("HERE, UNASKED", x.replace(0, 6), 3);
        CHECK.due("no day expected", x.about(3, 3), -1);
        CHECK.due("HERE", x.about(3, 2), 3);
    }

    private static void whileSomebodyHasIt() {
        IssueRows x = new IssueRows();
        Check.here(x, 0, 1, 0, 0);
        x.list(0, 5, 5);
        x.route(0, 0);
        CHECK.due("somebody has it", x.replace(0, 1), IssueRows.STATE);
        x.returned(0, 0);
        CHECK.due("nobody has it", x.replace(0, 1), 1);
        CHECK.due("nobody in its row", x.route(1, 1), IssueRows.STATE);
        CHECK.due("a row of its own", x.list(1, 8, 5), 1);
        CHECK.due("route", x.route(1, 1), 8);
    }

    private static void replacement() {
        IssueRows x = new IssueRows();
        x.issue(7, 33, 44);
        x.checkIn(0, 9, 40);
        x.list(0, 5, 5);
        x.cost(0, 5);
        CHECK.due("replace", x.replace(0, 100), 1);
        int[] want = {7, 33, 3, 44, 0, 1, 100, -1, -1, -1, 0};
        for (int what = 0; what <= 10; what++) {
            CHECK.due("about(1, " + what + ")", x.about(1, what), want[what]);
        }
        CHECK.due("GONE", x.about(0, 2), 6);
        CHECK.due("replaced by", x.about(0, 9), 1);
        CHECK.due("no note", x.told(0, 0), IssueRows.NONE);
        CHECK.due("the next issue", x.issue(7, 34, 0), 2);
    }

    private static void chain() {
        IssueRows x = new IssueRows();
        Check.here(x, 0, 5, 10, 12);
        for (int i = 0; i < 10; i++) {
            CHECK.due("replace", x.replace(i, 50 + i), i + 1);
        }
        CHECK.due("lateness of the first alone", x.lateness(0), 2);
        CHECK.due("statement", x.statement(0), 1);
        CHECK.due("one issue", x.row(0, 2), 1);
        CHECK.due("two are not there", x.bind(0, 2), IssueRows.STATE);
        CHECK.due("one is", x.bind(0, 1), 0);
        CHECK.due("the last one", x.volume(0, 0), 10);
    }

    private static void noRoom() {
        IssueRows x = new IssueRows();
        for (int i = 0; i < 199; i++) {
            x.issue(0, i + 1, 0);
        }
        x.checkIn(0, 1, 0);
        x.checkIn(1, 1, 0);
        CHECK.due("the last room", x.replace(0, 0), 199);
        CHECK.due("no room", x.replace(1, 0), IssueRows.FULL);
        CHECK.due("STATE counts before FULL", x.replace(0, 0), IssueRows.STATE);
        CHECK.due("RANGE counts before FULL", x.replace(1, -1), IssueRows.RANGE);
        CHECK.due("refused ones change nothing", x.about(1, 2), 3);
        CHECK.due("refused ones change nothing", x.about(1, 9), -1);
        CHECK.due("no room for issues", x.issue(1, 1, 0), IssueRows.FULL);
    }
}
