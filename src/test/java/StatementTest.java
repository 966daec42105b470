/** Promises 13 (statement) and 14 (row). */
public final class StatementTest {
    private static final Check CHECK = new Check("StatementTest");

    public static void main(String[] args) {
        whatInterrupts();
        ordinalsNeverTold();
        onlyItsPattern();
        goneOnes();
        staysAsItWas();
        manyRows();
        wrongRow();
        CHECK.end();
    }

    private static void rowIs(IssueRows x, int i, int first, int last, int count, int gap) {
        CHECK.due("row(" + i + ", 0)", x.row(i, 0), first);
        CHECK.due("row(" + i + ", 1)", x.row(i, 1), last);
        CHECK.due("row(" + i + ", 2)", x.row(i, 2), count);
        CHECK.due("row(" + i + ", 3)", x.row(i, 3), gap);
    }

    private static void whatInterrupts() {
        IssueRows x = new IssueRows();
        x.rule(0, 1, 1, 1);
        x.issue(0, 1, 0);
        x.claim(10);
        x.claim(20);
        x.issue(0, 3, 0);
        x.claim(10);
        x.issue(0, 5, 0);
        x.issue(0, 7, -1);
        for (int ordinal = 8; ordinal >= 2; ordinal -= 2) {
            Check.here(x, 0, ordinal, 0, 0);
        }
        int[] states = {4, 2, 1, 0};
        for (int i = 0; i < 4; i++) {
            CHECK.due("state", x.about(i, 2), states[i]);
        }
        CHECK.due("each alone", x.statement(0), 4);
        rowIs(x, 0, 2, 2, 1, 1);
        rowIs(x, 1, 4, 4, 1, 1);
        rowIs(x, 2, 6, 6, 1, 1);
        rowIs(x, 3, 8, 8, 1, 0);
        x.checkIn(1, 1, 0);
        x.bind(0, 2);
        CHECK.due("3 is there, and some are BOUND", x.statement(0), 3);
        rowIs(x, 0, 2, 4, 3, 1);
        x.checkIn(0, 1, 0);
        x.checkIn(2, 1, 0);
        x.checkIn(3, 1, 0);
        CHECK.due("all are there", x.statement(0), 1);
        rowIs(x, 0, 1, 8, 8, 0);
    }

    private static void ordinalsNeverTold() {
        IssueRows x = new IssueRows();
        Check.here(x, 0, 9999, 0, 0);
        Check.here(x, 0, 1, 0, 0);
        Check.here(x, 0, 500, 0, 0);
        CHECK.due("they do not interrupt", x.statement(0), 1);
        rowIs(x, 0, 1, 9999, 3, 0);
        x.issue(0, 10, 0);
        CHECK.due("now one is told", x.statement(0), 2);
        rowIs(x, 0, 1, 1, 1, 1);
        rowIs(x, 1, 500, 9999, 2, 0);
    }

    private static void onlyItsPattern() {
        IssueRows x = new IssueRows();
        Check.here(x, 0, 1, 0, 0);
        x.issue(1, 2, 0);
        Check.here(x, 0, 3, 0, 0);
        Check.here(x, 2, 7, 0, 0);
        x.issue(0, 4, 0);
        CHECK.due("others do not interrupt", x.statement(0), 1);
        rowIs(x, 0, 1, 3, 2, 0);
        CHECK.due("not there", x.statement(1), 0);
        CHECK.dueThrow("no row", () -> x.row(0, 0));
        CHECK.due("of 2", x.statement(2), 1);
        rowIs(x, 0, 7, 7, 1, 0);
        CHECK.due("of 9", x.statement(9), 0);
        CHECK.due("pattern -1", x.statement(-1), IssueRows.NONE);
        CHECK.due("pattern 10", x.statement(10), IssueRows.NONE);
    }

    private static void goneOnes() {
        IssueRows x = new IssueRows();
        x.rule(0, 1, 1, 0);
        Check.here(x, 0, 1, 0, 0);
        x.issue(0, 2, 0);
        Check.here(x, 0, 3, 0, 0);
        x.claim(1);
        CHECK.due("MISSING interrupts", x.statement(0), 2);
        x.replace(1, 0);
        CHECK.due("replaced", x.statement(0), 1);
        rowIs(x, 0, 1, 3, 3, 0);
        x.replace(0, 0);
        x.replace(3, 0);
        CHECK.due("replaced again", x.statement(0), 1);
        rowIs(x, 0, 1, 3, 3, 0);
    }

    private static void staysAsItWas() {
        IssueRows x = new IssueRows();
        Check.here(x, 0, 1, 0, 0);
        Check.here(x, 0, 3, 0, 0);
        x.statement(0);
        x.issue(0, 2, 0);
        Check.here(x, 0, 9, 0, 0);
        rowIs(x, 0, 1, 3, 2, 0);
        x.statement(10);
        rowIs(x, 0, 1, 3, 2, 0);
        x.statement(1);
        CHECK.dueThrow("an empty one is the latest", () -> x.row(0, 0));
    }

    private static void manyRows() {
        IssueRows x = new IssueRows();
        for (int i = 0; i < 100; i++) {
            Check.here(x, 0, 2 * i + 1, 0, 0);
            x.issue(0, 2 * i + 2, 0);
        }
        CHECK.due("a hundred rows", x.statement(0), 100);
        rowIs(x, 0, 1, 1, 1, 1);
        rowIs(x, 99, 199, 199, 1, 0);
        CHECK.dueThrow("no more", () -> x.row(100, 0));
        x.checkIn(1, 1, 0);
        CHECK.due("two are one now", x.statement(0), 99);
        rowIs(x, 0, 1, 3, 3, 1);
        rowIs(x, 98, 199, 199, 1, 0);
    }

    private static void wrongRow() {
        IssueRows x = new IssueRows();
        Check.here(x, 0, 1, 0, 0);
        CHECK.dueThrow("no statement yet", () -> x.row(0, 0));
        x.statement(0);
        CHECK.dueThrow("row(-1, 0)", () -> x.row(-1, 0));
        CHECK.dueThrow("row(1, 0)", () -> x.row(1, 0));
        CHECK.dueThrow("row(0, -1)", () -> x.row(0, -1));
        CHECK.dueThrow("row(0, 4)", () -> x.row(0, 4));
        CHECK.dueThrow("row(MAX, 0)", () -> x.row(Integer.MAX_VALUE, 0));
        CHECK.dueThrow("row(MIN, 0)", () -> x.row(Integer.MIN_VALUE, 0));
    }
}
