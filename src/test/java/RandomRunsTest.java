import java.util.Random;
import java.util.TreeSet;

/**
 * Runs of calls from fixed seeds, with numbers at and beyond every edge, held against the model:
 * every answer is the model's, and no call throws but where the document says so.
 */
public final class RandomRunsTest {
    private static final Check CHECK = new Check("RandomRunsTest");
    private static final int SEEDS = 120;

    private static final int[] ODD = {
        Integer.MIN_VALUE, -1000000, -3, -2, -1, 0, 1, 2, 3, 4, 7, 8, 9, 10, 11, 39, 40, 50, 51, 99, 100, 101, 199,
        200, 201, 999, 1000, 1001, 9999, 10000, 999999, 1000000, 1000001, 10000000, 10000001, Integer.MAX_VALUE,
    };

    private static final String[] MET = {
        "rule NONE", "rule RANGE", "rule taken",
        "issue NONE", "issue RANGE", "issue STATE", "issue FULL", "issue taken",
        "checkIn NONE", "checkIn RANGE", "checkIn STATE", "checkIn taken",
        "claim RANGE", "claim taken", "claimed thrown", "claimed taken",
        "list NONE", "list RANGE", "list STATE", "list FULL", "list taken",
        "route NONE", "route RANGE", "route STATE", "route taken",
        "returned NONE", "returned RANGE", "returned STATE", "returned taken",
        "replace NONE", "replace RANGE", "replace STATE", "replace FULL", "replace taken",
        "bind NONE", "bind RANGE", "bind STATE", "bind FULL", "bind taken",
        "volume thrown", "volume taken", "statement NONE", "statement taken", "row thrown", "row taken",
        "about NONE", "about taken", "cost NONE", "cost RANGE", "cost FULL", "cost taken",
        "told NONE", "told taken", "lateness NONE", "lateness taken",
    };

    /** What a kind of runs calls mostly, so that every limit is met in some of them. */
    private enum Kind {
        ALL(60, 200, "rule issue issue issue checkIn checkIn claim claim list list route returned replace bind"),
        MANY_ISSUES(9999, 200, "issue issue issue issue issue issue issue issue checkIn replace claim statement"),
        ROUTING(60, 5, "issue checkIn checkIn list list list list route route returned returned returned replace"),
        VOLUMES(9999, 200, "issue issue checkIn checkIn checkIn checkIn bind bind bind"),
        CLAIMS(60, 200, "rule issue claim claim claim claim checkIn replace"),
        COSTS(60, 2, "issue cost cost cost cost cost cost cost cost cost");

        final int ordinals;
        final int most;
        final String[] calls;

        Kind(int ordinals, int most, String calls) {
            this.ordinals = ordinals;
            this.most = most;
            this.calls = calls.split(" ");
        }
    }

    private static final String[] READS = {
        "claimed", "volume", "row", "about", "about", "about", "told", "told", "lateness", "statement",
    };

    public static void main(String[] args) {
        TreeSet<String> met = new TreeSet<>();
        for (Kind kind : Kind.values()) {
            for (int seed = 0; seed < SEEDS; seed++) {
                run(kind, seed, met);
            }
        }
        for (String outcome : MET) {
            if (!met.contains(outcome)) {
                CHECK.fail("no run meets: " + outcome);
            }
        }
        CHECK.end();
    }

    private static void run(Kind kind, int seed, TreeSet<String> met) {
        Random random = new Random(seed);
        IssueRows x = new IssueRows();
        Model model = new Model();
        int issues = 0;
        for (int made = 0; made < Script.MOST_CALLS; made++) {
            boolean reads = random.nextInt(4) == 0 || made > Script.MOST_CALLS - 60;
            String[] from = reads ? READS : kind.calls;
            String name = from[random.nextInt(from.length)];
            String call = name + numbers(kind, name, issues, random);
            int want = Calls.make(model, call);
            int got = Calls.make(x, call);
            if (got != want) {
                CHECK.fail(kind + ", seed " + seed + ", call " + made + ": " + call + " answered " + Calls.name(got)
                    + ", due is " + Calls.name(want));
                return;
            }
            if (got >= 0 && (name.equals("issue") || name.equals("replace"))) {
                issues = got + 1;
            }
            met.add(name + " " + outcome(got));
        }
    }

    private static String outcome(int answer) {
        if (answer == Calls.THROWS) {
            return "thrown";
        }
        return answer >= 0 ? "taken" : Calls.name(answer).split(" ")[0];
    }

    private static String numbers(Kind kind, String name, int issues, Random random) {
        int pattern = kind == Kind.VOLUMES ? 0 : random.nextInt(3);
        int issue = random.nextInt(Math.min(issues + 1, kind.most));
        int day = random.nextInt(random.nextBoolean() ? 40 : 200);
        switch (name) {
            case "rule":
                return join(random, pattern, 1 + random.nextInt(30), 1 + random.nextInt(30), random.nextInt(4));
            case "issue":
                int ordinal = 1 + random.nextInt(kind.ordinals);
                return join(random, pattern, ordinal, random.nextInt(5) == 0 ? -1 : day);
            case "checkIn":
                return join(random, issue, 1 + random.nextInt(99), day);
            case "claim":
                return join(random, day);
            case "claimed":
                return join(random, random.nextInt(5), random.nextInt(2));
            case "list":
                return join(random, issue, random.nextInt(1000), 1 + random.nextInt(20));
            case "route":
            case "returned":
            case "replace":
                return join(random, issue, day);
            case "bind":
                return join(random, pattern, 1 + random.nextInt(random.nextInt(3) + 1));
            case "volume":
                return join(random, random.nextInt(5), random.nextInt(3));
            case "row":
                return join(random, random.nextInt(4), random.nextInt(4));
            case "about":
                return join(random, issue, random.nextInt(11));
            case "cost":
                return join(random, issue, 9000000 + random.nextInt(1000001));
            case "told":
                return join(random, random.nextInt(100), random.nextInt(2));
            default:
                return join(random, pattern);
        }
    }

    private static String join(Random random, int... numbers) {
        StringBuilder text = new StringBuilder();
        boolean odd = random.nextInt(6) == 0;
        for (int number : numbers) {
            text.append(' ').append(odd && random.nextInt(2) == 0 ? ODD[random.nextInt(ODD.length)] : number);
        }
        return text.toString();
    }
}
