/** Promises 2 (rule), 5 (claim) and 6 (claimed). */
public final class ClaimTest {
    private static final Check CHECK = new Check("ClaimTest");

    public static void main(String[] args) {
        ruleEdges();
        firstRule();
        refusedRuleChangesNothing();
        rulesOfPatterns();
        mostZero();
        fewerThanClaimed();
        daysBeforeTheLatestClaim();
        onlyAwaitedOnes();
        latestRound();
        wrongClaimed();
        CHECK.end();
    }

    private static void ruleEdges() {
        IssueRows x = new IssueRows();
        CHECK.due("rule(-1)", x.rule(-1, 1, 1, 1), IssueRows.NONE);
        CHECK.due("rule(10)", x.rule(10, 1, 1, 1), IssueRows.NONE);
        CHECK.due("NONE counts before RANGE", x.rule(10, 0, 0, -1), IssueRows.NONE);
        CHECK.due("first 0", x.rule(0, 0, 1, 1), IssueRows.RANGE);
        CHECK.due("first 1001", x.rule(0, 1001, 1, 1), IssueRows.RANGE);
        CHECK.due("again 0", x.rule(0, 1, 0, 1), IssueRows.RANGE);
        CHECK.due("again 1001", x.rule(0, 1, 1001, 1), IssueRows.RANGE);
        CHECK.due("most -1", x.rule(0, 1, 1, -1), IssueRows.RANGE);
        CHECK.due("most 10", x.rule(0, 1, 1, 10), IssueRows.RANGE);
        CHECK.due("least", x.rule(0, 1, 1, 0), 1);
        CHECK.due("greatest", x.rule(9, 1000, 1000, 9), 1);
    }

    private static void firstRule() {
        for (int pattern = 0; pattern < 10; pattern++) {
            IssueRows x = new IssueRows();
            x.issue(pattern, 1, 100);
            CHECK.due("claim(129)", x.claim(129), 0);
            CHECK.due("EXPECTED", x.about(0, 2), 1);
            CHECK.due("claim(130)", x.claim(130), 1);
            CHECK.due("CLAIMED", x.about(0, 2), 2);
            CHECK.due("claims", x.about(0, 4), 1);
            CHECK.due("claim(149)", x.claim(149), 0);
            CHECK.due("claim(150)", x.claim(150), 1);
            CHECK.due("claim(175)", x.claim(175), 1);
            CHECK.due("claims", x.about(0, 4), 3);
            CHECK.due("claim(194)", x.claim(194), 0);
            CHECK.due("CLAIMED still", x.about(0, 2), 2);
            CHECK.due("no note", x.told(0, 0), IssueRows.NONE);
            CHECK.due("claim(195)", x.claim(195), 0);
            CHECK.due("MISSING", x.about(0, 2), 4);
            CHECK.due("claims stay", x.about(0, 4), 3);
            CHECK.due("note", x.told(0, 0), 3);
            CHECK.due("note's issue", x.told(0, 1), 0);
            CHECK.due("claim of a MISSING one", x.claim(1000000), 0);
            CHECK.due("one note", x.told(1, 0), IssueRows.NONE);
        }
    }

    private static void refusedRuleChangesNothing() {
        IssueRows x = new IssueRows();
        x.rule(0, 1, 1, 10);
        x.rule(0, 1, 1001, 1);
        x.issue(0, 1, 0);
        CHECK.due("claim(29) by the first rule", x.claim(29), 0);
        CHECK.due("claim(30) by the first rule", x.claim(30), 1);
    }

    private static void rulesOfPatterns() {
        IssueRows x = new IssueRows();
        x.rule(4, 5, 2, 9);
        x.issue(4, 1, 0);
        x.issue(5, 1, 0);
        CHECK.due("claim(4)", x.claim(4), 0);
        CHECK.due("claim(5)", x.claim(5), 1);
        for (int claims = 2; claims <= 9; claims++) {
            CHECK.due("a claim more", x.claim(5 + 2 * (claims - 1)), 1);
            CHECK.due("claims", x.claimed(0, 1), claims);
        }
        CHECK.due("claim(23)", x.claim(23), 0);
        CHECK.due("MISSING after 9", x.about(0, 2), 4);
        CHECK.due("the other pattern", x.about(1, 2), 1);
    }

    private static void mostZero() {
        IssueRows x = new IssueRows();
        x.rule(0, 10, 50, 0);
        x.issue(0, 1, 0);
        CHECK.due("claim(9)", x.claim(9), 0);
        CHECK.due("EXPECTED", x.about(0, 2), 1);
        CHECK.due("claim(10)", x.claim(10), 0);
        CHECK.due("MISSING", x.about(0, 2), 4);
        CHECK.due("claims", x.about(0, 4), 0);
        CHECK.due("note", x.told(0, 0), 3);
    }

    private static void fewerThanClaimed() {
        IssueRows x = new IssueRows();
        x.issue(0, 1, 0);
        x.claim(30);
        x.claim(50);
        x.rule(0, 30, 20, 1);
        CHECK.due("claim(69)", x.claim(69), 0);
        CHECK.due("CLAIMED", x.about(0, 2), 2);
        CHECK.due("claim(70)", x.claim(70), 0);
        CHECK.due("MISSING", x.about(0, 2), 4);
    }

    private static void daysBeforeTheLatestClaim() {
        IssueRows x = new IssueRows();
        x.issue(0, 1, 100);
        x.claim(500);
        CHECK.due("claim(0)", x.claim(0), 0);
        CHECK.due("claim(519)", x.claim(519), 0);
        CHECK.due("claim(520)", x.claim(520), 1);
    }

    private static void onlyAwaitedOnes() {
        IssueRows x = new IssueRows();
        x.issue(0, 1, -1);
        Check.here(x, 0, 2, 0, 0);
        Check.here(x, 0, 3, 0, 0);
        Check.here(x, 1, 3, 0, 0);
        x.replace(1, 0);
        x.bind(1, 1);
        CHECK.due("nothing to claim", x.claim(1000000), 0);
        CHECK.due("UNASKED", x.about(0, 2), 0);
        CHECK.due("no notes", x.told(0, 0), IssueRows.NONE);
        x.issue(2, 1, 0);
        x.claim(1000000);
        x.checkIn(5, 1, 0);
        CHECK.due("HERE after a claim", x.claim(1000000), 0);
        CHECK.due("claims stay", x.about(5, 4), 1);
    }

    private static void latestRound() {
        IssueRows x = new IssueRows();
        x.issue(1, 9, 10);
        x.issue(0, 9, 20);
        x.issue(0, 1, 5);
        CHECK.due("claim(40)", x.claim(40), 2);
        CHECK.due("by numbers", x.claimed(0, 0), 0);
        CHECK.due("by numbers", x.claimed(1, 0), 2);
        CHECK.due("claim(-1)", x.claim(-1), IssueRows.RANGE);
        CHECK.due("claim(1000001)", x.claim(1000001), IssueRows.RANGE);
        CHECK.due("refused rounds change nothing", x.claimed(1, 0), 2);
        CHECK.due("claim(60)", x.claim(60), 3);
        CHECK.due("first", x.claimed(0, 1), 2);
        CHECK.due("second", x.claimed(1, 0), 1);
        CHECK.due("second", x.claimed(1, 1), 1);
        CHECK.due("third", x.claimed(2, 1), 2);
        x.checkIn(0, 1, 61);
        CHECK.due("a round stays as it was", x.claimed(0, 0), 0);
        CHECK.due("claim(61)", x.claim(61), 0);
        CHECK.dueThrow("an empty round", () -> x.claimed(0, 0));
    }

    private static void wrongClaimed() {
        IssueRows x = new IssueRows();
        x.issue(0, 1, 0);
        x.claim(30);
        CHECK.dueThrow("claimed(-1, 0)", () -> x.claimed(-1, 0));
        CHECK.dueThrow("claimed(1, 0)", () -> x.claimed(1, 0));
        CHECK.dueThrow("claimed(0, 2)", () -> x.claimed(0, 2));
        CHECK.dueThrow("claimed(0, -1)", () -> x.claimed(0, -1));
        CHECK.dueThrow("claimed(200, 0)", () -> x.claimed(200, 0));
        CHECK.dueThrow("claimed(MIN, 0)", () -> x.claimed(Integer.MIN_VALUE, 0));
        CHECK.dueThrow("claimed(MAX, 0)", () -> x.claimed(Integer.MAX_VALUE, 0));
    }
}
