/** Promises 11 (bind) and 12 (volume). */
public final class BindTest {
    private static final Check CHECK = new Check("BindTest");

    public static void main(String[] args) {
        edges();
        byOrdinals();
        overWhatIsNotHere();
        whileSomebodyHasOne();
        fiftyInOne();
        fortyVolumes();
        wrongVolume();
        CHECK.end();
    }

    private static void edges() {
        IssueRows x = new IssueRows();
        CHECK.due("pattern -1", x.bind(-1, 1), IssueRows.NONE);
        CHECK.due("pattern 10", x.bind(10, 1), IssueRows.NONE);
        CHECK.due("NONE counts before RANGE", x.bind(10, 0), IssueRows.NONE);
        CHECK.due("n 0", x.bind(0, 0), IssueRows.RANGE);
        CHECK.due("n 51", x.bind(0, 51), IssueRows.RANGE);
        CHECK.due("n -1", x.bind(0, -1), IssueRows.RANGE);
        CHECK.due("none HERE", x.bind(0, 1), IssueRows.STATE);
        Check.here(x, 1, 1, 0, 0);
        CHECK.due("HERE of another pattern", x.bind(0, 1), IssueRows.STATE);
        CHECK.due("fewer", x.bind(1, 2), IssueRows.STATE);
        CHECK.due("refused ones change nothing", x.about(0, 2), 3);
        CHECK.due("bind", x.bind(1, 1), 0);
        CHECK.due("BOUND already", x.bind(1, 1), IssueRows.STATE);
    }

    private static void byOrdinals() {
        IssueRows x = new IssueRows();
        for (int ordinal : new int[] {40, 10, 30, 20, 50}) {
            Check.here(x, 0, ordinal, 0, 0);
            Check.here(x, 1, ordinal, 0, 0);
        }
        CHECK.due("the first three", x.bind(0, 3), 0);
        CHECK.due("10", x.volume(0, 0), 2);
        CHECK.due("20", x.volume(0, 1), 6);
        CHECK.due("30", x.volume(0, 2), 4);
        CHECK.dueThrow("no fourth", () -> x.volume(0, 3));
        CHECK.due("another pattern", x.bind(1, 1), 1);
        CHECK.due("its 10", x.volume(1, 0), 3);
        CHECK.due("the next two", x.bind(0, 2), 2);
        CHECK.due("40", x.volume(2, 0), 0);
        CHECK.due("50", x.volume(2, 1), 8);
        CHECK.dueThrow("volume 1 has one", () -> x.volume(1, 1));
        for (int number : new int[] {0, 2, 4, 6, 8}) {
            CHECK.due("BOUND", x.about(number, 2), 5);
        }
        CHECK.due("volume of 40", x.about(0, 8), 2);
        CHECK.due("volume of 10", x.about(2, 8), 0);
        CHECK.due("of another pattern", x.about(1, 8), -1);
        CHECK.due("of another pattern", x.about(1, 2), 3);
    }

    private static void overWhatIsNotHere() {
        IssueRows x = new IssueRows();
        x.issue(0, 1, 0);
        Check.here(x, 0, 2, 0, 0);
        x.issue(0, 3, -1);
        Check.here(x, 0, 4, 0, 0);
        Check.here(x, 0, 5, 0, 0);
        x.replace(3, 0);
        CHECK.due("4 are not HERE", x.bind(0, 4), IssueRows.STATE);
        CHECK.due("3 are", x.bind(0, 3), 0);
        CHECK.due("first", x.volume(0, 0), 1);
        CHECK.due("second, replaced", x.volume(0, 1), 5);
        CHECK.due("third", x.volume(0, 2), 4);
        CHECK.due("what is not HERE stays", x.about(0, 2), 1);
        CHECK.due("what is GONE stays", x.about(3, 2), 6);
        x.checkIn(0, 1, 0);
        CHECK.due("one that came later", x.bind(0, 1), 1);
        CHECK.due("has a lesser ordinal", x.volume(1, 0), 0);
    }

    private static void whileSomebodyHasOne() {
        IssueRows x = new IssueRows();
        for (int ordinal = 1; ordinal <= 3; ordinal++) {
            Check.here(x, 0, ordinal, 0, 0);
            x.list(ordinal - 1, 5, 5);
        }
        x.route(1, 0);
        CHECK.due("somebody has the second", x.bind(0, 2), IssueRows.STATE);
        CHECK.due("or one of three", x.bind(0, 3), IssueRows.STATE);
        CHECK.due("nothing is bound", x.about(0, 2), 3);
        CHECK.due("not the first", x.bind(0, 1), 0);
        CHECK.due("it is the first now", x.bind(0, 1), IssueRows.STATE);
        x.returned(1, 0);
        CHECK.due("returned", x.bind(0, 2), 1);
        CHECK.due("first", x.volume(1, 0), 1);
        CHECK.due("second", x.volume(1, 1), 2);
    }

    private static void fiftyInOne() {
        IssueRows x = new IssueRows();
        for (int i = 0; i < 200; i++) {
            Check.here(x, 0, 200 - i, 0, 0);
        }
        for (int volume = 0; volume < 4; volume++) {
            CHECK.due("fifty", x.bind(0, 50), volume);
        }
        CHECK.due("none left", x.bind(0, 1), IssueRows.STATE);
        // Not every one: what an object answers behind its 512th call is free.
        for (int i = 0; i < 200; i += 7) {
            CHECK.due("member", x.volume(i / 50, i % 50), 199 - i);
        }
        CHECK.dueThrow("no 51st", () -> x.volume(0, 50));
    }

    private static void fortyVolumes() {
        IssueRows x = new IssueRows();
        for (int i = 0; i < 42; i++) {
            Check.here(x, 0, i + 1, 0, 0);
        }
        for (int volume = 0; volume < 40; volume++) {
            CHECK.due("a volume more", x.bind(0, 1), volume);
        }
        CHECK.due("one too many", x.bind(0, 1), IssueRows.FULL);
        CHECK.due("STATE counts before FULL", x.bind(0, 3), IssueRows.STATE);
        CHECK.due("RANGE counts before FULL", x.bind(0, 51), IssueRows.RANGE);
        CHECK.due("refused ones change nothing", x.about(40, 2), 3);
        CHECK.due("the last volume", x.volume(39, 0), 39);
        CHECK.dueThrow("no 41st", () -> x.volume(40, 0));
        x.list(40, 1, 1);
        x.route(40, 0);
        CHECK.due("STATE counts before FULL", x.bind(0, 1), IssueRows.STATE);
    }

    private static void wrongVolume() {
        IssueRows x = new IssueRows();
        Check.here(x, 0, 1, 0, 0);
        x.bind(0, 1);
        CHECK.due("volume(0, 0)", x.volume(0, 0), 0);
        CHECK.dueThrow("volume(-1, 0)", () -> x.volume(-1, 0));
        CHECK.dueThrow("volume(1, 0)", () -> x.volume(1, 0));
        CHECK.dueThrow("volume(0, -1)", () -> x.volume(0, -1));
        CHECK.dueThrow("volume(0, 1)", () -> x.volume(0, 1));
        CHECK.dueThrow("volume(MAX, 0)", () -> x.volume(Integer.MAX_VALUE, 0));
        CHECK.dueThrow("volume(MIN, 0)", () -> x.volume(Integer.MIN_VALUE, 0));
        CHECK.dueThrow("volume(0, MAX)", () -> x.volume(0, Integer.MAX_VALUE));
        CHECK.dueThrow("volume(0, MIN)", () -> x.volume(0, Integer.MIN_VALUE));
    }
}
