/** Promises 7 (list), 8 (route) and 9 (returned). */
public final class RoutingTest {
    private static final Check CHECK = new Check("RoutingTest");

    public static void main(String[] args) {
        listEdges();
        eightPersons();
        routeEdges();
        returnedEdges();
        wholeRow();
        lateReturns();
        onlyWhatIsHere();
        rowsOfTheirOwn();
        CHECK.end();
    }

    private static void listEdges() {
        IssueRows x = new IssueRows();
        CHECK.due("none yet", x.list(0, 1, 1), IssueRows.NONE);
        Check.here(x, 0, 1, 0, 0);
        CHECK.due("issue -1", x.list(-1, 1, 1), IssueRows.NONE);
        CHECK.due("NONE counts before RANGE", x.list(1, -1, 0), IssueRows.NONE);
        CHECK.due("person -1", x.list(0, -1, 1), IssueRows.RANGE);
        CHECK.due("person 1000", x.list(0, 1000, 1), IssueRows.RANGE);
        CHECK.due("days 0", x.list(0, 1, 0), IssueRows.RANGE);
        CHECK.due("days 101", x.list(0, 1, 101), IssueRows.RANGE);
        CHECK.due("least", x.list(0, 0, 1), 1);
        CHECK.due("greatest", x.list(0, 999, 100), 2);
        CHECK.due("the same person again", x.list(0, 999, 100), 3);
        CHECK.due("nobody has it", x.about(0, 7), -1);
        x.issue(0, 2, 0);
        CHECK.due("not HERE", x.list(1, 1, 1), IssueRows.STATE);
        CHECK.due("RANGE counts before STATE", x.list(1, 1000, 1), IssueRows.RANGE);
    }

    private static void eightPersons() {
        IssueRows x = new IssueRows();
        Check.here(x, 0, 1, 0, 0);
        for (int i = 1; i <= 8; i++) {
            CHECK.due("a person more", x.list(0, 100 + i, i), i);
        }
        CHECK.due("one too many", x.list(0, 109, 1), IssueRows.FULL);
        CHECK.due("RANGE counts before FULL", x.list(0, 1000, 1), IssueRows.RANGE);
        CHECK.due("route", x.route(0, 0), 101);
        CHECK.due("STATE counts before FULL", x.list(0, 109, 1), IssueRows.STATE);
        for (int i = 2; i <= 8; i++) {
            CHECK.due("returned", x.returned(0, 0), 100 + i);
            CHECK.due("who has it", x.about(0, 7), 100 + i);
        }
        CHECK.due("the last returns it", x.returned(0, 0), 1000);
        CHECK.due("FULL and routed", x.list(0, 109, 1), IssueRows.STATE);
    }

    private static void routeEdges() {
        IssueRows x = new IssueRows();
        CHECK.due("none yet", x.route(0, 1), IssueRows.NONE);
        Check.here(x, 0, 1, 0, 50);
        CHECK.due("issue -1", x.route(-1, 1), IssueRows.NONE);
        CHECK.due("NONE counts before RANGE", x.route(1, -1), IssueRows.NONE);
        CHECK.due("RANGE counts before STATE", x.route(0, -1), IssueRows.RANGE);
        CHECK.due("nobody in its row", x.route(0, 1), IssueRows.STATE);
        x.list(0, 7, 7);
        CHECK.due("day -1", x.route(0, -1), IssueRows.RANGE);
        CHECK.due("day 1000001", x.route(0, 1000001), IssueRows.RANGE);
        CHECK.due("refused ones change nothing", x.list(0, 8, 7), 2);
        CHECK.due("route", x.route(0, 1000000), 7);
        CHECK.due("routed twice", x.route(0, 1000000), IssueRows.STATE);
        CHECK.due("on the same day", x.returned(0, 1000000), 8);
        CHECK.due("routed again", x.route(0, 1000000), IssueRows.STATE);
    }

    private static void returnedEdges() {
        IssueRows x = new IssueRows();
        CHECK.due("none yet", x.returned(0, 1), IssueRows.NONE);
        Check.here(x, 0, 1, 0, 0);
        CHECK.due("issue -1", x.returned(-1, 1), IssueRows.NONE);
        CHECK.due("NONE counts before RANGE", x.returned(1, -1), IssueRows.NONE);
        CHECK.due("nobody in its row", x.returned(0, 1), IssueRows.STATE);
        CHECK.due("RANGE counts before STATE", x.returned(0, -1), IssueRows.RANGE);
        x.list(0, 7, 7);
        CHECK.due("not routed yet", x.returned(0, 1), IssueRows.STATE);
        x.route(0, 20);
        CHECK.due("day -1", x.returned(0, -1), IssueRows.RANGE);
        CHECK.due("day 1000001", x.returned(0, 1000001), IssueRows.RANGE);
        CHECK.due("before it was routed", x.returned(0, 19), IssueRows.RANGE);
        CHECK.due("refused ones change nothing", x.about(0, 7), 7);
        CHECK.due("on the same day", x.returned(0, 20), 1000);
        CHECK.due("nobody has it", x.returned(0, 20), IssueRows.STATE);
        CHECK.due("nobody has it, an earlier day", x.returned(0, 19), IssueRows.STATE);
        CHECK.due("day 1000001 again", x.returned(0, 1000001), IssueRows.RANGE);
    }

    private static void wholeRow() {
        IssueRows x = new IssueRows();
        Check.here(x, 0, 1, 0, 0);
        x.list(0, 30, 5);
        x.list(0, 10, 5);
        x.list(0, 20, 5);
        CHECK.due("the first, not the least", x.route(0, 100), 30);
        CHECK.due("the second", x.returned(0, 105), 10);
        CHECK.due("before the second had it", x.returned(0, 104), IssueRows.RANGE);
        CHECK.due("the third", x.returned(0, 110), 20);
        CHECK.due("the end", x.returned(0, 111), 1000);
        CHECK.due("nobody has it", x.about(0, 7), -1);
        CHECK.due("it was had", x.list(0, 1, 1), IssueRows.STATE);
        CHECK.due("it was routed", x.route(0, 200), IssueRows.STATE);
        CHECK.due("nobody was late", x.told(0, 0), IssueRows.NONE);
    }

    private static void lateReturns() {
        IssueRows x = new IssueRows();
        Check.here(x, 0, 1, 0, 0);
        Check.here(x, 0, 2, 0, 0);
        x.list(1, 1, 7);
        x.list(1, 2, 1);
        x.list(1, 3, 100);
        x.list(1, 4, 100);
        x.route(1, 10);
        x.returned(1, 17);
        CHECK.due("on the last day", x.told(0, 0), IssueRows.NONE);
        x.returned(1, 19);
        CHECK.due("a day behind", x.told(0, 0), 4);
        CHECK.due("the issue", x.told(0, 1), 1);
        x.returned(1, 119);
        CHECK.due("on the last day", x.told(1, 0), IssueRows.NONE);
        CHECK.due("the last one is late, too", x.returned(1, 220), 1000);
        CHECK.due("note", x.told(1, 0), 4);
        x.returned(1, 500);
        CHECK.due("refused ones tell nothing", x.told(2, 0), IssueRows.NONE);
    }

    private static void onlyWhatIsHere() {
        IssueRows x = new IssueRows();
        for (int ordinal = 1; ordinal <= 2; ordinal++) {
            int number = Check.here(x, 0, ordinal, 0, 0);
            x.list(number, 5, 5);
        }
        x.replace(1, 0);
        x.bind(0, 1);
        x.issue(0, 3, -1);
        x.issue(0, 4, 0);
        for (int number : new int[] {0, 1, 3, 4}) {
            CHECK.due("list", x.list(number, 5, 5), IssueRows.STATE);
            CHECK.due("route", x.route(number, 5), IssueRows.STATE);
            CHECK.due("returned", x.returned(number, 5), IssueRows.STATE);
        }
        x.claim(30);
        CHECK.due("list of a CLAIMED one", x.list(4, 5, 5), IssueRows.STATE);
        x.rule(0, 1, 1, 0);
        x.claim(31);
        CHECK.due("list of a MISSING one", x.list(4, 5, 5), IssueRows.STATE);
    }

    private static void rowsOfTheirOwn() {
        IssueRows x = new IssueRows();
        Check.here(x, 0, 1, 0, 0);
        Check.here(x, 0, 2, 0, 0);
        CHECK.due("list", x.list(0, 1, 1), 1);
        CHECK.due("list", x.list(1, 2, 1), 1);
        CHECK.due("route", x.route(1, 0), 2);
        CHECK.due("the other goes on", x.list(0, 3, 1), 2);
        CHECK.due("the other has nobody", x.about(0, 7), -1);
    }
}
