import java.util.ArrayList;
import java.util.Comparator;
import java.util.List;
import java.util.stream.Collectors;

/**
 * The document told a second time, as plainly as the whole library allows and with nothing kept
 * that can be looked up: what random runs are held against.
 */
final class Model {
    private static final int NONE = -1;
    private static final int RANGE = -2;
    private static final int STATE = -3;
    private static final int FULL = -4;

    private enum State { UNASKED, EXPECTED, CLAIMED, HERE, MISSING, BOUND, GONE }

    private record Rule(int first, int again, int most) { }

    private record Note(int which, int issue) { }

    private record Reader(int person, int days) { }

    private record Row(int first, int last, int count) { }

    private static final class Issue {
        int number;
        int pattern;
        int ordinal;
        int expected;
        State state;
        List<Integer> claimDays = new ArrayList<>();
        int copies = 0;
        int came = -1;
        List<Reader> readers = new ArrayList<>();
        // The day of the routing and of every return: as many as have or had it, and one more at the end.
        List<Integer> handed = new ArrayList<>();
        Issue replaces = null;
        Issue replacedBy = null;
        int cents = 0;

        boolean isHad() {
            return !handed.isEmpty() && handed.size() <= readers.size();
        }

        Reader holder() {
            return readers.get(handed.size() - 1);
        }

        int lastDay() {
            return handed.get(handed.size() - 1);
        }
    }

    private final List<Rule> rules = new ArrayList<>();
    private final List<Issue> issues = new ArrayList<>();
    private final List<List<Issue>> volumes = new ArrayList<>();
    private final List<Note> notes = new ArrayList<>();
    private List<Issue> round = List.of();
    private List<Row> rows = List.of();

    Model() {
        for (int pattern = 0; pattern <= 9; pattern++) {
            rules.add(new Rule(30, 20, 3));
        }
    }

    int rule(int pattern, int first, int again, int most) {
        if (noPattern(pattern)) {
            return NONE;
        }
        if (first < 1 || first > 1000 || again < 1 || again > 1000 || most < 0 || most > 9) {
            return RANGE;
        }
        rules.set(pattern, new Rule(first, again, most));
        return 1;
    }

    int issue(int pattern, int ordinal, int day) {
        if (noPattern(pattern)) {
            return NONE;
        }
        if (ordinal < 1 || ordinal > 9999 || (day != -1 && noDay(day))) {
            return RANGE;
        }
        if (of(pattern).stream().anyMatch(i -> i.ordinal == ordinal)) {
            return STATE;
        }
        if (issues.size() == 200) {
            return FULL;
        }
        return more(pattern, ordinal, day).number;
    }

    int checkIn(int issue, int copies, int day) {
        if (noIssue(issue)) {
            return NONE;
        }
        if (copies < 1 || copies > 99 || noDay(day)) {
            return RANGE;
        }
        Issue i = issues.get(issue);
        State was = i.state;
        if (was == State.HERE || was == State.BOUND || was == State.GONE) {
            return STATE;
        }
        i.state = State.HERE;
        i.copies = copies;
        i.came = day;
        if (was == State.UNASKED) {
            tell(1, i);
            return 0;
        }
        if (was == State.MISSING || day > i.expected) {
            tell(2, i);
        }
        return 1;
    }

    int claim(int day) {
        if (noDay(day)) {
            return RANGE;
        }
        round = new ArrayList<>();
        for (Issue i : issues) {
            Rule rule = rules.get(i.pattern);
            boolean first = i.state == State.EXPECTED && day >= i.expected + rule.first;
            boolean again = i.state == State.CLAIMED
                && day >= i.claimDays.get(i.claimDays.size() - 1) + rule.again;
            if ((first || again) && i.claimDays.size() < rule.most) {
                i.state = State.CLAIMED;
                i.claimDays.add(day);
                round.add(i);
            } else if (first || again) {
                i.state = State.MISSING;
                tell(3, i);
            }
        }
        return round.size();
    }

    int claimed(int i, int what) {
        if (i < 0 || i >= round.size() || what < 0 || what > 1) {
            throw new IndexOutOfBoundsException();
        }
        return what == 0 ? round.get(i).number : round.get(i).claimDays.size();
    }

    int list(int issue, int person, int days) {
        if (noIssue(issue)) {
            return NONE;
        }
        if (person < 0 || person > 999 || days < 1 || days > 100) {
            return RANGE;
        }
        Issue i = issues.get(issue);
        if (i.state != State.HERE || !i.handed.isEmpty()) {
            return STATE;
        }
        if (i.readers.size() == 8) {
            return FULL;
        }
        i.readers.add(new Reader(person, days));
        return i.readers.size();
    }

    int route(int issue, int day) {
        if (noIssue(issue)) {
            return NONE;
        }
        if (noDay(day)) {
            return RANGE;
        }
        Issue i = issues.get(issue);
        if (i.state != State.HERE || !i.handed.isEmpty() || i.readers.isEmpty()) {
            return STATE;
        }
        i.handed.add(day);
        return i.holder().person;
    }

    int returned(int issue, int day) {
        if (noIssue(issue)) {
            return NONE;
        }
        Issue i = issues.get(issue);
        if (noDay(day) || (i.isHad() && day < i.lastDay())) {
            return RANGE;
        }
        if (!i.isHad()) {
            return STATE;
        }
        if (day > i.lastDay() + i.holder().days) {
            tell(4, i);
        }
        i.handed.add(day);
        return i.isHad() ? i.holder().person : 1000;
    }

    int replace(int issue, int day) {
        if (noIssue(issue)) {
            return NONE;
        }
        if (noDay(day)) {
            return RANGE;
        }
        Issue i = issues.get(issue);
        if ((i.state != State.HERE && i.state != State.MISSING) || i.isHad()) {
            return STATE;
        }
        if (issues.size() == 200) {
            return FULL;
        }
        Issue other = more(i.pattern, i.ordinal, i.expected);
        other.state = State.HERE;
        other.copies = 1;
        other.came = day;
        other.replaces = i;
        i.state = State.GONE;
        i.replacedBy = other;
        return other.number;
    }

    int bind(int pattern, int n) {
        if (noPattern(pattern)) {
            return NONE;
        }
        if (n < 1 || n > 50) {
            return RANGE;
        }
        List<Issue> next = of(pattern).stream().filter(i -> i.state == State.HERE)
            .sorted(Comparator.comparingInt(i -> i.ordinal)).limit(n).collect(Collectors.toList());
        if (next.size() < n || next.stream().anyMatch(Issue::isHad)) {
            return STATE;
        }
        if (volumes.size() == 40) {
            return FULL;
        }
        next.forEach(i -> i.state = State.BOUND);
        volumes.add(next);
        return volumes.size() - 1;
    }

    int volume(int volume, int i) {
        if (volume < 0 || volume >= volumes.size() || i < 0 || i >= volumes.get(volume).size()) {
            throw new IndexOutOfBoundsException();
        }
        return volumes.get(volume).get(i).number;
    }

    int statement(int pattern) {
        if (noPattern(pattern)) {
            return NONE;
        }
        List<Issue> there = of(pattern).stream().filter(i -> i.state == State.HERE || i.state == State.BOUND)
            .sorted(Comparator.comparingInt(i -> i.ordinal)).collect(Collectors.toList());
        rows = new ArrayList<>();
        for (Issue i : there) {
            Row before = rows.isEmpty() ? null : rows.get(rows.size() - 1);
            if (before == null || isBetween(pattern, before.last, i.ordinal)) {
                rows.add(new Row(i.ordinal, i.ordinal, 1));
            } else {
                rows.set(rows.size() - 1, new Row(before.first, i.ordinal, before.count + 1));
            }
        }
        return rows.size();
    }

    int row(int i, int what) {
        if (i < 0 || i >= rows.size() || what < 0 || what > 3) {
            throw new IndexOutOfBoundsException();
        }
        Row row = rows.get(i);
        return List.of(row.first, row.last, row.count, i + 1 < rows.size() ? 1 : 0).get(what);
    }

    int about(int issue, int what) {
        if (noIssue(issue) || what < 0 || what > 10) {
            return NONE;
        }
        Issue i = issues.get(issue);
        int holder = i.isHad() ? i.holder().person : -1;
        int replacedBy = i.replacedBy == null ? -1 : i.replacedBy.number;
        int volume = -1;
        for (int v = 0; v < volumes.size(); v++) {
            volume = volumes.get(v).contains(i) ? v : volume;
        }
        int[] all = {
            i.pattern, i.ordinal, i.state.ordinal(), i.expected, i.claimDays.size(), i.copies, i.came, holder,
            volume, replacedBy, i.cents,
        };
        return all[what];
    }

    int cost(int issue, int cents) {
        if (noIssue(issue)) {
            return NONE;
        }
        if (cents < 0 || cents > 10000000) {
            return RANGE;
        }
        Issue i = issues.get(issue);
        if ((long) i.cents + cents > 1000000000L) {
            return FULL;
        }
        i.cents += cents;
        return i.cents;
    }

    int told(int i, int what) {
        if (i < 0 || i >= notes.size() || what < 0 || what > 1) {
            return NONE;
        }
        return what == 0 ? notes.get(i).which : notes.get(i).issue;
    }

    int lateness(int pattern) {
        if (noPattern(pattern)) {
            return NONE;
        }
        return of(pattern).stream().filter(i -> i.came >= 0 && i.expected >= 0 && i.replaces == null)
            .mapToInt(i -> Math.max(0, i.came - i.expected)).sum();
    }

    private static boolean noPattern(int pattern) {
        return pattern < 0 || pattern > 9;
    }

    private static boolean noDay(int day) {
        return day < 0 || day > 1000000;
    }

    private boolean noIssue(int issue) {
        return issue < 0 || issue >= issues.size();
    }

    private List<Issue> of(int pattern) {
        return issues.stream().filter(i -> i.pattern == pattern).collect(Collectors.toList());
    }

    private boolean isBetween(int pattern, int low, int high) {
        return of(pattern).stream().anyMatch(i -> i.state != State.GONE && i.ordinal > low && i.ordinal < high);
    }

    private Issue more(int pattern, int ordinal, int day) {
        Issue i = new Issue();
        i.number = issues.size();
        i.pattern = pattern;
        i.ordinal = ordinal;
        i.expected = day;
        i.state = day == -1 ? State.UNASKED : State.EXPECTED;
        issues.add(i);
        return i;
    }

    private void tell(int which, Issue i) {
        if (notes.size() < 100) {
            notes.add(new Note(which, i.number));
        }
    }
}
