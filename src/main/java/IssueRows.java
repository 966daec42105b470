/**
 * Issues of serials: expected, claimed by rules, checked in, routed to persons, replaced, bound
 * into volumes, and told as statements of what is there.
 */
public final class IssueRows {
    public static final int NONE = -1;
    public static final int RANGE = -2;
    public static final int STATE = -3;
    public static final int FULL = -4;

    private static final int PATTERNS = 10;
    private static final int MAX_ISSUES = 200;
    private static final int MAX_VOLUMES = 40;
    private static final int MAX_NOTES = 100;
    private static final int MAX_PERSONS = 8;

    private static final int MAX_ORDINAL = 9999;
    private static final int MAX_DAY = 1000000;
    private static final int MAX_WAIT = 1000;
    private static final int MAX_CLAIMS = 9;
    private static final int MAX_COPIES = 99;
    private static final int MAX_PERSON = 999;
    private static final int MAX_LOAN = 100;
    private static final int MAX_BOUND = 50;
    private static final int MAX_CENTS = 10000000;
    private static final int MAX_COST = 1000000000;

    private static final int NO_DAY = -1;
    private static final int NOBODY = -1;
    private static final int ROW_ENDED = 1000;

    private static final int UNASKED = 0;
    private static final int EXPECTED = 1;
    private static final int CLAIMED = 2;
    private static final int HERE = 3;
    private static final int MISSING = 4;
    private static final int BOUND = 5;
    private static final int GONE = 6;

    private static final int NOTE_UNASKED = 1;
    private static final int NOTE_LATE = 2;
    private static final int NOTE_MISSING = 3;
    private static final int NOTE_RETURNED_LATE = 4;

    private final Rule[] rules = new Rule[PATTERNS];
    private final Issue[] issues = new Issue[MAX_ISSUES];
    // Kept sorted at all times, so that statements and volumes need no sorting of their own.
    private final Issue[] byOrdinal = new Issue[MAX_ISSUES];
    private int issueCount = 0;
    private final Pairs round = new Pairs(MAX_ISSUES);
    private final Pairs notes = new Pairs(MAX_NOTES);
    private final Volumes volumes = new Volumes();
    private final Statement latest = new Statement();

    public IssueRows() {
        for (int i = 0; i < PATTERNS; i++) {
            rules[i] = new Rule();
        }
    }

    public int rule(int pattern, int first, int again, int most) {
        if (!isPattern(pattern)) {
            return NONE;
        }
        if (!within(first, 1, MAX_WAIT) || !within(again, 1, MAX_WAIT) || !within(most, 0, MAX_CLAIMS)) {
            return RANGE;
        }
        Rule rule = rules[pattern];
        rule.first = first;
        rule.again = again;
        rule.most = most;
        return 1;
    }

    public int issue(int pattern, int ordinal, int day) {
        if (!isPattern(pattern)) {
            return NONE;
        }
        if (!within(ordinal, 1, MAX_ORDINAL) || !(day == NO_DAY || isDay(day))) {
            return RANGE;
        }
        if (hasOrdinal(pattern, ordinal)) {
            return STATE;
        }
        if (issueCount >= MAX_ISSUES) {
            return FULL;
        }
        Issue added = new Issue(issueCount, pattern, ordinal, day, false);
        keep(added);
        return added.number;
    }

    public int checkIn(int issue, int copies, int day) {
        Issue found = find(issue);
        if (found == null) {
            return NONE;
        }
        if (!within(copies, 1, MAX_COPIES) || !isDay(day)) {
            return RANGE;
        }
        if (!found.isAwaited()) {
            return STATE;
        }
        boolean unasked = found.state == UNASKED;
        if (unasked) {
            notes.add(NOTE_UNASKED, found.number);
        } else if (found.state == MISSING || day > found.expected) {
            notes.add(NOTE_LATE, found.number);
        }
        found.arrive(copies, day);
        return unasked ? 0 : 1;
    }

    public int claim(int day) {
        if (!isDay(day)) {
            return RANGE;
        }
        round.clear();
        for (int i = 0; i < issueCount; i++) {
            claimIfDue(issues[i], day);
        }
        return round.size;
    }

    public int claimed(int i, int what) throws IndexOutOfBoundsException {
        if (!round.has(i, what)) {
            throw new IndexOutOfBoundsException("no such claim");
        }
        return round.part(i, what);
    }

    public int list(int issue, int person, int days) {
        Issue found = find(issue);
        if (found == null) {
            return NONE;
        }
        if (!within(person, 0, MAX_PERSON) || !within(days, 1, MAX_LOAN)) {
            return RANGE;
        }
        if (found.state != HERE || found.routing.isStarted()) {
            return STATE;
        }
        if (found.routing.isFull()) {
            return FULL;
        }
        found.routing.add(person, days);
        return found.routing.size;
    }

    public int route(int issue, int day) {
        Issue found = find(issue);
        if (found == null) {
            return NONE;
        }
        if (!isDay(day)) {
            return RANGE;
        }
        if (found.state != HERE || found.routing.isStarted() || found.routing.size == 0) {
            return STATE;
        }
        found.routing.passOn(day);
        return found.routing.holder();
    }

    public int returned(int issue, int day) {
        Issue found = find(issue);
        if (found == null) {
            return NONE;
        }
        Routing routing = found.routing;
        if (!isDay(day) || (routing.isOut() && day < routing.since)) {
            return RANGE;
        }
        if (!routing.isOut()) {
            return STATE;
        }
        if (routing.isLate(day)) {
            notes.add(NOTE_RETURNED_LATE, found.number);
        }
        routing.passOn(day);
        return routing.isOut() ? routing.holder() : ROW_ENDED;
    }

    public int replace(int issue, int day) {
        Issue old = find(issue);
        if (old == null) {
            return NONE;
        }
        if (!isDay(day)) {
            return RANGE;
        }
        if (!old.isReplaceable()) {
            return STATE;
        }
        if (issueCount >= MAX_ISSUES) {
            return FULL;
        }
        Issue added = new Issue(issueCount, old.pattern, old.ordinal, old.expected, true);
        added.arrive(1, day);
        keep(added);
        old.state = GONE;
        old.replacedBy = added.number;
        return added.number;
    }

    public int bind(int pattern, int n) {
        if (!isPattern(pattern)) {
            return NONE;
        }
        if (!within(n, 1, MAX_BOUND)) {
            return RANGE;
        }
        if (!isBindable(pattern, n)) {
            return STATE;
        }
        if (volumes.isFull()) {
            return FULL;
        }
        return bindNext(pattern, n);
    }

    public int volume(int volume, int i) throws IndexOutOfBoundsException {
        if (!volumes.has(volume, i)) {
            throw new IndexOutOfBoundsException("no such issue of a volume");
        }
        return volumes.member(volume, i);
    }

    public int statement(int pattern) {
        if (!isPattern(pattern)) {
            return NONE;
        }
        latest.clear();
        boolean interrupted = true;
        for (int i = 0; i < issueCount; i++) {
            Issue next = byOrdinal[i];
            // A GONE issue shares its ordinal with its replacement, which stands for both.
            if (next.pattern != pattern || next.state == GONE) {
                continue;
            }
            if (next.isThere()) {
                latest.add(next.ordinal, interrupted);
            }
            interrupted = !next.isThere();
        }
        return latest.size;
    }

    public int row(int i, int what) throws IndexOutOfBoundsException {
        if (!latest.has(i, what)) {
            throw new IndexOutOfBoundsException("no such row");
        }
        return latest.part(i, what);
    }

    public int about(int issue, int what) {
        Issue found = find(issue);
        return found == null ? NONE : found.part(what);
    }

    public int cost(int issue, int cents) {
        Issue found = find(issue);
        if (found == null) {
            return NONE;
        }
        if (!within(cents, 0, MAX_CENTS)) {
            return RANGE;
        }
        if (found.cents > MAX_COST - cents) {
            return FULL;
        }
        found.cents += cents;
        return found.cents;
    }

    public int told(int i, int what) {
        return notes.has(i, what) ? notes.part(i, what) : NONE;
    }

    public int lateness(int pattern) {
        if (!isPattern(pattern)) {
            return NONE;
        }
        int days = 0;
        for (int i = 0; i < issueCount; i++) {
            if (issues[i].pattern == pattern) {
                days += issues[i].daysLate();
            }
        }
        return days;
    }

    private static boolean within(int number, int least, int greatest) {
        return number >= least && number <= greatest;
    }

    private static boolean isPattern(int pattern) {
        return within(pattern, 0, PATTERNS - 1);
    }

    private static boolean isDay(int day) {
        return within(day, 0, MAX_DAY);
    }

    private Issue find(int number) {
        return within(number, 0, issueCount - 1) ? issues[number] : null;
    }

    private boolean hasOrdinal(int pattern, int ordinal) {
        for (int i = 0; i < issueCount; i++) {
            if (issues[i].pattern == pattern && issues[i].ordinal == ordinal) {
                return true;
            }
        }
        return false;
    }

    private void keep(Issue added) {
        if (issueCount >= MAX_ISSUES) {
            return;
        }
        int place = issueCount;
        for (; place > 0 && byOrdinal[place - 1].ordinal > added.ordinal; place--) {
            byOrdinal[place] = byOrdinal[place - 1];
        }
        byOrdinal[place] = added;
        issues[issueCount] = added;
        issueCount++;
    }

    private void claimIfDue(Issue issue, int day) {
        Rule rule = rules[issue.pattern];
        if (!rule.isDue(issue, day)) {
            return;
        }
        // A rule may have been changed to fewer claims than there were: these are enough, too.
        if (issue.claims < rule.most) {
            issue.claimOn(day);
            round.add(issue.number, issue.claims);
        } else {
            issue.state = MISSING;
            notes.add(NOTE_MISSING, issue.number);
        }
    }

    private boolean isBindable(int pattern, int n) {
        int found = 0;
        for (int i = 0; i < issueCount && found < n; i++) {
            Issue next = byOrdinal[i];
            if (next.pattern == pattern && next.state == HERE) {
                if (next.routing.isOut()) {
                    return false;
                }
                found++;
            }
        }
        return found == n;
    }

    private int bindNext(int pattern, int n) {
        int volume = volumes.open();
        int bound = 0;
        for (int i = 0; i < issueCount && bound < n; i++) {
            Issue next = byOrdinal[i];
            if (next.pattern == pattern && next.state == HERE) {
                next.state = BOUND;
                next.volume = volume;
                volumes.add(next.number);
                bound++;
            }
        }
        return volume;
    }

    private static final class Rule {
        int first = 30;
        int again = 20;
        int most = 3;

        boolean isDue(Issue issue, int day) {
            if (issue.state == EXPECTED) {
                return day - issue.expected >= first;
            }
            return issue.state == CLAIMED && day - issue.claimedOn >= again;
        }
    }

    private static final class Issue {
        final int number;
        final int pattern;
        final int ordinal;
        final int expected;
        final boolean replacement;
        final Routing routing = new Routing();
        int state;
        int claims = 0;
        int claimedOn = NO_DAY;
        int copies = 0;
        int came = NO_DAY;
        int volume = NONE;
        int replacedBy = NONE;
        int cents = 0;

        Issue(int number, int pattern, int ordinal, int expected, boolean replacement) {
            this.number = number;
            this.pattern = pattern;
            this.ordinal = ordinal;
            this.expected = expected;
            this.replacement = replacement;
            this.state = expected == NO_DAY ? UNASKED : EXPECTED;
        }

        boolean isAwaited() {
            return state == UNASKED || state == EXPECTED || state == CLAIMED || state == MISSING;
        }

        boolean isThere() {
            return state == HERE || state == BOUND;
        }

        boolean isReplaceable() {
            return (state == HERE || state == MISSING) && !routing.isOut();
        }

        void arrive(int inCopies, int day) {
            state = HERE;
            copies = inCopies;
            came = day;
        }

        void claimOn(int day) {
            state = CLAIMED;
            claims++;
            claimedOn = day;
        }

        int daysLate() {
            boolean counts = came != NO_DAY && expected != NO_DAY && !replacement;
            return counts && came > expected ? came - expected : 0;
        }

        int part(int what) {
            switch (what) {
                case 0:
                    return pattern;
                case 1:
                    return ordinal;
                case 2:
                    return state;
                case 3:
                    return expected;
                case 4:
                    return claims;
                case 5:
                    return copies;
                case 6:
                    return came;
                case 7:
                    return routing.holder();
                case 8:
                    return volume;
                case 9:
                    return replacedBy;
                case 10:
                    return cents;
                default:
                    return NONE;
            }
        }
    }

    /** The persons that an issue goes to, one behind the other. */
    private static final class Routing {
        final int[] persons = new int[MAX_PERSONS];
        final int[] days = new int[MAX_PERSONS];
        int size = 0;
        // -1 before the issue is routed, size after the last person has returned it.
        int place = -1;
        int since = NO_DAY;

        boolean isFull() {
            return size >= MAX_PERSONS;
        }

        boolean isStarted() {
            return place >= 0;
        }

        boolean isOut() {
            return place >= 0 && place < size;
        }

        boolean isLate(int day) {
            return isOut() && day - since > days[place];
        }

        int holder() {
            return isOut() ? persons[place] : NOBODY;
        }

        void add(int person, int loan) {
            if (!isFull()) {
                persons[size] = person;
                days[size] = loan;
                size++;
            }
        }

        void passOn(int day) {
            if (place < size) {
                place++;
                since = day;
            }
        }
    }

    /** A row of two numbers each, up to a limit; what comes beyond it is lost. */
    private static final class Pairs {
        final int[] firsts;
        final int[] seconds;
        int size = 0;

        Pairs(int limit) {
            int length = Math.max(limit, 0);
            firsts = new int[length];
            seconds = new int[length];
        }

        void clear() {
            size = 0;
        }

        void add(int first, int second) {
            if (size < firsts.length) {
                firsts[size] = first;
                seconds[size] = second;
                size++;
            }
        }

        boolean has(int i, int what) {
            return within(i, 0, size - 1) && within(what, 0, 1);
        }

        int part(int i, int what) {
            if (!has(i, what)) {
                return NONE;
            }
            return what == 0 ? firsts[i] : seconds[i];
        }
    }

    /** All volumes in one row of issues: no issue is bound twice, so it never runs over. */
    private static final class Volumes {
        final int[] members = new int[MAX_ISSUES];
        // Volume v has the members from ends[v] on, up to ends[v + 1] without it.
        final int[] ends = new int[MAX_VOLUMES + 1];
        int count = 0;

        boolean isFull() {
            return count >= MAX_VOLUMES;
        }

        int open() {
            if (isFull()) {
                return NONE;
            }
            ends[count + 1] = ends[count];
            count++;
            return count - 1;
        }

        void add(int issue) {
            if (within(count, 1, MAX_VOLUMES) && within(ends[count], 0, MAX_ISSUES - 1)) {
                members[ends[count]] = issue;
                ends[count]++;
            }
        }

        boolean has(int volume, int i) {
            return within(volume, 0, count - 1) && within(i, 0, ends[volume + 1] - ends[volume] - 1);
        }

        int member(int volume, int i) {
            return has(volume, i) ? members[ends[volume] + i] : NONE;
        }
    }

    /** The rows of a statement, as they were when it was made. */
    private static final class Statement {
        final int[] firsts = new int[MAX_ISSUES];
        final int[] lasts = new int[MAX_ISSUES];
        final int[] counts = new int[MAX_ISSUES];
        int size = 0;

        void clear() {
            size = 0;
        }

        void add(int ordinal, boolean newRow) {
            if (newRow && size < MAX_ISSUES) {
                firsts[size] = ordinal;
                counts[size] = 0;
                size++;
            }
            if (size > 0) {
                lasts[size - 1] = ordinal;
                counts[size - 1]++;
            }
        }

        boolean has(int i, int what) {
            return within(i, 0, size - 1) && within(what, 0, 3);
        }

        int part(int i, int what) {
            if (!has(i, what)) {
                return NONE;
            }
            switch (what) {
                case 0:
                    return firsts[i];
                case 1:
                    return lasts[i];
                case 2:
                    return counts[i];
                default:
                    return i < size - 1 ? 1 : 0;
            }
        }
    }
}
