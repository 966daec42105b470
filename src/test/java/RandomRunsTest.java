import java.util.ArrayList;
import java.util.List;
import java.util.Random;

/**
 * Runs of calls from fixed seeds, with numbers at and beyond every edge: what is refused changes
 * nothing, no call throws but where the document says so, and the parts of the state agree.
 */
public final class RandomRunsTest {
    private static final Check CHECK = new Check("RandomRunsTest");
    private static final int[] ODD = {
        Integer.MIN_VALUE, -1000000, -3, -2, -1, 0, 1, 7, 8, 9, 10, 40, 50, 51, 99, 100, 101, 199, 200, 201,
        999, 1000, 1001, 9999, 10000, 1000000, 1000001, 10000000, 10000001, Integer.MAX_VALUE,
    };

    public static void main(String[] args) {
        for (int seed = 0; seed < 60; seed++) {
            run(seed);
        }
        CHECK.end();
    }

    private static void run(int seed) {
        Random random = new Random(seed);
        IssueRows x = new IssueRows();
        List<Integer> before = snapshot(x);
        for (int call = 0; call < 512; call++) {
            int which = random.nextInt(12);
            int answer = make(x, which, random, random.nextInt(8) == 0);
            List<Integer> after = snapshot(x);
            boolean refused = answer < 0;
            if (refused && !after.equals(before)) {
                CHECK.fail("seed " + seed + ", call " + call + " of kind " + which + " is refused and changes something");
            }
            before = after;
            agree(x, seed);
        }
    }

    private static int number(Random random, boolean odd, int usual) {
        return odd && random.nextInt(3) == 0 ? ODD[random.nextInt(ODD.length)] : random.nextInt(usual);
    }

    private static int make(IssueRows x, int which, Random random, boolean odd) {
        // Few patterns and ordinals, so that the runs meet the states in which much is refused.
        int pattern = number(random, odd, 3);
        int issue = number(random, odd, 60);
        int day = number(random, odd, 300);
        int small = number(random, odd, 10);
        try {
            switch (which) {
                case 0:
                    return x.rule(pattern, 1 + number(random, odd, 60), 1 + number(random, odd, 60), small % 4);
                case 1:
                case 2:
                    return x.issue(pattern, 1 + number(random, odd, 80), day - (small == 0 ? day + 1 : 0));
                case 3:
                case 4:
                    return x.checkIn(issue, 1 + small, day);
                case 5:
                    return x.claim(day);
                case 6:
                    return x.list(issue, number(random, odd, 1000), 1 + small);
                case 7:
                    return x.route(issue, day);
                case 8:
                    return x.returned(issue, day);
                case 9:
                    return x.replace(issue, day);
                case 10:
                    return x.bind(pattern, 1 + small);
                default:
                    return random.nextBoolean() ? x.statement(pattern) : x.cost(issue, number(random, odd, 5000));
            }
        } catch (RuntimeException e) {
            CHECK.fail("kind " + which + " throws " + e);
            return -1;
        }
    }

    private static List<Integer> snapshot(IssueRows x) {
        List<Integer> all = new ArrayList<>();
        for (int issue = 0; issue < 200 && x.about(issue, 0) >= 0; issue++) {
            for (int what = 1; what <= 10; what++) {
                all.add(x.about(issue, what));
            }
        }
        for (int i = 0; i < 100 && x.told(i, 0) >= 0; i++) {
            all.add(x.told(i, 0));
            all.add(x.told(i, 1));
        }
        for (int pattern = 0; pattern < 10; pattern++) {
            all.add(x.lateness(pattern));
        }
        for (int kind = 0; kind < 2; kind++) {
            for (int i = 0; i < 200 && read(x, kind, i, 0) >= 0; i++) {
                for (int what = 0; what < 4; what++) {
                    all.add(read(x, kind, i, what));
                }
            }
        }
        for (int volume = 0; volume < 40 && read(x, 2, volume, 0) >= 0; volume++) {
            for (int i = 0; i <= 50; i++) {
                all.add(read(x, 2, volume, i));
            }
        }
        return all;
    }

    private static int read(IssueRows x, int kind, int i, int what) {
        try {
            return kind == 0 ? x.claimed(i, what) : kind == 1 ? x.row(i, what) : x.volume(i, what);
        } catch (IndexOutOfBoundsException e) {
            if (e.getClass() != IndexOutOfBoundsException.class) {
                CHECK.fail("the machine throws " + e);
            }
            return -1;
        }
    }

    private static void agree(IssueRows x, int seed) {
        for (int issue = 0; issue < 200 && x.about(issue, 0) >= 0; issue++) {
            int state = x.about(issue, 2);
            boolean came = state == 3 || state == 5;
            boolean ok = (state == 5) == (x.about(issue, 8) >= 0)
                && (state == 6) == (x.about(issue, 9) >= 0)
                && (!came || (x.about(issue, 6) >= 0 && x.about(issue, 5) >= 1))
                && (state == 3 || x.about(issue, 7) == -1)
                && (state != 0 || x.about(issue, 3) == -1);
            if (!ok) {
                CHECK.fail("seed " + seed + ": the parts of issue " + issue + " do not agree");
            }
        }
    }
}
