import java.util.ArrayList;
import java.util.List;

/** What is refused changes nothing: two objects with the same run, one of them with a refused call more. */
final class Afterwards {
    private static final int PATTERNS = 10;
    /** So many issues are tried in the probes that change something, where not every one can be. */
    private static final int SOME = 8;

    private Afterwards() {
    }

    /** The first call that is answered otherwise behind the refused call, or null. */
    static String difference(List<String> run, String refused) {
        int room = Math.max(0, Script.MOST_CALLS - run.size() - 1);
        int issues = issuesOf(run);
        List<List<String>> probes = slices(reads(issues), room);
        List<List<String>> changing = List.of(
            rounds(issues), routes(issues, false), routes(issues, true), volumes(), additions(issues));
        for (List<String> changes : changing) {
            probes.add(changes.subList(0, Math.min(room, changes.size())));
        }
        for (List<String> probe : probes) {
            String found = compare(run, refused, probe);
            if (found != null) {
                return found;
            }
        }
        return null;
    }

    private static String compare(List<String> run, String refused, List<String> probe) {
        IssueRows with = replay(run);
        IssueRows without = replay(run);
        Calls.make(with, refused);
        for (String call : probe) {
            int got = Calls.make(with, call);
            int want = Calls.make(without, call);
            if (got != want) {
                return call + " answers " + Calls.name(got) + ", without it " + Calls.name(want);
            }
        }
        return null;
    }

    private static IssueRows replay(List<String> run) {
        IssueRows x = new IssueRows();
        for (String call : run) {
            Calls.make(x, call);
        }
        return x;
    }

    private static int issuesOf(List<String> run) {
        IssueRows x = new IssueRows();
        int issues = 0;
        for (String call : run) {
            int answer = Calls.make(x, call);
            if (answer >= 0 && (call.startsWith("issue ") || call.startsWith("replace "))) {
                issues = answer + 1;
            }
        }
        return issues;
    }

    // Reads change nothing themselves, so they may be shared out among as many twins as it takes.
    private static List<List<String>> slices(List<String> calls, int room) {
        List<List<String>> all = new ArrayList<>();
        for (int from = 0; room > 0 && from < calls.size(); from += room) {
            all.add(calls.subList(from, Math.min(from + room, calls.size())));
        }
        return all;
    }

    private static List<String> reads(int issues) {
        List<String> calls = new ArrayList<>();
        for (int i = 0; i <= issues; i++) {
            addEach(calls, "claimed " + i, 1);
            addEach(calls, "row " + i, 3);
            addEach(calls, "about " + i, 10);
        }
        for (int i = 0; i <= 100; i++) {
            addEach(calls, "told " + i, 1);
        }
        for (int i = 0; i <= 40; i++) {
            addEach(calls, "volume " + i, 2);
        }
        for (int pattern = 0; pattern < PATTERNS; pattern++) {
            calls.add("lateness " + pattern);
        }
        return calls;
    }

    private static void addEach(List<String> calls, String call, int last) {
        for (int what = 0; what <= last; what++) {
            calls.add(call + " " + what);
        }
    }

    // Rules and the days of latest claims show only in the rounds that come.
    private static List<String> rounds(int issues) {
        List<String> calls = new ArrayList<>();
        if (issues < 190) {
            for (int pattern = 0; pattern < PATTERNS; pattern++) {
                calls.add("issue " + pattern + " 9876 1");
            }
        }
        for (int day = 0; day <= 125; day++) {
            calls.add("claim " + day);
        }
        calls.add("claim 1000000");
        for (int i = 0; i < SOME; i++) {
            calls.add("about " + i + " 2");
            calls.add("about " + i + " 4");
        }
        return calls;
    }

    // Who is in a row, for how long, and since when shows only as the issue goes through it.
    private static List<String> routes(int issues, boolean withOneMore) {
        List<String> calls = new ArrayList<>();
        for (int i = 0; i < Math.min(issues, SOME); i++) {
            if (withOneMore) {
                calls.add("list " + i + " 876 2");
            }
            calls.add("route " + i + " 20");
            for (int day = 2; day <= 62; day += 4) {
                calls.add("returned " + i + " " + day);
            }
        }
        for (int i = 0; i < 20; i++) {
            addEach(calls, "told " + i, 1);
        }
        return calls;
    }

    private static List<String> volumes() {
        List<String> calls = new ArrayList<>();
        for (int pattern = 0; pattern < PATTERNS; pattern++) {
            calls.add("bind " + pattern + " 2");
            calls.add("bind " + pattern + " 1");
            calls.add("statement " + pattern);
            addEach(calls, "row 0", 3);
        }
        for (int volume = 0; volume < PATTERNS; volume++) {
            addEach(calls, "volume " + volume, 2);
        }
        return calls;
    }

    private static List<String> additions(int issues) {
        List<String> calls = new ArrayList<>();
        for (int pattern = 0; pattern < PATTERNS; pattern++) {
            calls.add("issue " + pattern + " 1 7");
            calls.add("issue " + pattern + " 9876 7");
        }
        for (int i = 0; i < Math.min(issues, SOME); i++) {
            calls.add("cost " + i + " 1");
            calls.add("checkIn " + i + " 2 99");
            calls.add("replace " + i + " 98");
        }
        for (int i = 0; i < 20; i++) {
            addEach(calls, "told " + i, 1);
        }
        return calls;
    }
}
