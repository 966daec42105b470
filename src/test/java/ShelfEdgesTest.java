/** The edges that promises 7 to 14 name: what is done with issues that are HERE, and statements of them. */
public final class ShelfEdgesTest {
    private static final Check CHECK = new Check("ShelfEdgesTest");

    public static void main(String[] args) {
        list();
        listStates();
        route();
        returned();
        replace();
        replaceStates();
        replacement();
        bind();
        bindStates();
        fortyVolumes();
        volume();
        statement();
        row();
        CHECK.end();
    }

    private static Script script(String sentence) {
        return new Script(CHECK, sentence);
    }

    private static void list() {
        script("7: RANGE if the person is not 0 .. 999").here(0, 1).range("list 0 # 7", -1, 1000)
            .due("list 0 0 7", 1).due("list 0 999 7", 2).due("route 0 0", 0).due("returned 0 0", 999);
        script("7: or days are not 1 .. 100").here(0, 1).range("list 0 5 #", 0, -1, 101)
            .due("list 0 5 1", 1).due("list 0 6 100", 2);
        script("7: NONE").here(0, 1).none("list # 5 7", -1, 1);
        script("7: at the end of an issue's row: how many it has").here(0, 1).here(0, 2)
            .due("list 0 9 7", 1).due("list 0 3 7", 2).due("list 1 4 7", 1).due("list 0 6 7", 3)
            .due("route 0 0", 9).due("returned 0 0", 3).due("returned 0 0", 6).due("returned 0 0", 1000);
        script("7: FULL if there are 8").here(0, 1).here(0, 2).madeFor(1, 7, "list 0 # 7").due("list 0 8 7", 8)
            .full("list 0 9 1").full("list 0 8 1").due("list 1 9 7", 1);
        script("7: the same person again").here(0, 1).due("list 0 5 7", 1).due("list 0 5 7", 2)
            .due("route 0 0", 5).due("returned 0 0", 5).due("returned 0 0", 1000);
    }

    private static void listStates() {
        script("7: STATE unless it is HERE: UNASKED").made("issue 0 1 -1").state("list 0 5 7");
        script("7: STATE unless it is HERE: EXPECTED, CLAIMED, MISSING").made("issue 0 1 0").state("list 0 5 7")
            .made("claim 30").state("list 0 5 7").made("rule 0 1 1 0", "claim 31").due("about 0 2", 4)
            .state("list 0 5 7")
            .made("checkIn 0 1 40").due("list 0 5 7", 1);
        script("7: STATE unless it is HERE: BOUND").here(0, 1).made("list 0 5 7", "bind 0 1").state("list 0 6 7");
        script("7: STATE unless it is HERE: GONE").here(0, 1).made("list 0 5 7", "replace 0 0").state("list 0 6 7")
            .due("list 1 6 7", 1);
        script("7: and nobody of the row has it yet").here(0, 1).made("list 0 5 7", "route 0 0").state("list 0 6 7");
        script("7: or had").here(0, 1).made("list 0 5 7", "list 0 6 7", "route 0 0", "returned 0 1")
            .state("list 0 7 7")
            .made("returned 0 2").due("about 0 7", -1).state("list 0 7 7");
    }

    private static void route() {
        script("8: NONE").here(0, 1).made("list 0 5 7").none("route # 1", -1, 1).due("route 0 1", 5);
        script("8: RANGE").here(0, 1).made("list 0 5 7").range("route 0 #", -1, 1000001).due("route 0 1000000", 5);
        script("8: the first person of its row").here(0, 1).made("list 0 9 7", "list 0 1 7").due("route 0 0", 9)
            .due("about 0 7", 9);
        script("8: the first person may be 0").here(0, 1).made("list 0 0 7").due("route 0 0", 0).due("about 0 7", 0)
            .state("bind 0 1").state("replace 0 1").due("returned 0 1", 1000);
        script("8: with somebody in its row").here(0, 1).state("route 0 0").made("list 0 5 7").due("route 0 0", 5);
        script("8: not routed: nobody has it").here(0, 1).made("list 0 5 7", "route 0 0").state("route 0 0")
            .state("route 0 9");
        script("8: or had it").here(0, 1).made("list 0 5 7", "list 0 6 7", "route 0 0", "returned 0 0")
            .state("route 0 1")
            .made("returned 0 0").state("route 0 1");
        script("8: STATE unless it is HERE: not there yet").made("issue 0 1 -1", "issue 0 2 0").state("route 0 1")
            .state("route 1 1")
            .made("claim 30").state("route 1 1").made("rule 0 1 1 0", "claim 31").due("about 1 2", 4)
            .state("route 1 1");
        script("8: STATE unless it is HERE: BOUND").here(0, 1).made("list 0 5 7", "bind 0 1").state("route 0 1");
        script("8: STATE unless it is HERE: GONE").here(0, 1).made("list 0 5 7", "replace 0 0").state("route 0 1")
            .state("route 1 1").made("list 1 6 7").due("route 1 1", 6);
        script("8: a refused route leaves the row open").here(0, 1).made("list 0 5 7").range("route 0 -1")
            .due("list 0 6 7", 2);
    }

    private static void returned() {
        script("9: NONE").here(0, 1).made("list 0 5 7", "route 0 0").none("returned # 1", -1, 1)
            .due("returned 0 1", 1000);
        script("9: RANGE if the day can't be").here(0, 1).made("list 0 5 7", "route 0 0")
            .range("returned 0 #", -1, 1000001).due("returned 0 1000000", 1000);
        script("9: or is before that from which it was had, by the first").here(0, 1)
            .made("list 0 5 7", "list 0 6 7", "route 0 50")
            .range("returned 0 0").range("returned 0 49").due("about 0 7", 5).due("returned 0 50", 6);
        script("9: or is before that from which it was had, by the next").here(0, 1)
            .made("list 0 5 7", "list 0 6 7", "route 0 50", "returned 0 60")
            .range("returned 0 50").range("returned 0 59").due("returned 0 60", 1000);
        script("9: a refused return leaves the day").here(0, 1).made("list 0 5 7", "route 0 50")
            .range("returned 0 40").due("returned 0 57", 1000).none("told 0 0");
        script("9: STATE if nobody has it: nobody listed").here(0, 1).state("returned 0 0");
        script("9: STATE if nobody has it: not routed yet").here(0, 1).made("list 0 5 7").state("returned 0 0");
        script("9: STATE if nobody has it: the last has returned it").here(0, 1)
            .made("list 0 5 7", "route 0 50", "returned 0 60")
            .state("returned 0 60").state("returned 0 100").state("returned 0 40");
        script("9: STATE if nobody has it: not there").made("issue 0 1 -1", "issue 0 2 0").state("returned 0 0")
            .state("returned 1 0");
        script("9: STATE if nobody has it: BOUND, GONE").here(0, 1).here(0, 2)
            .made("list 0 5 7", "list 1 5 7", "replace 1 0", "bind 0 1")
            .state("returned 0 0").state("returned 1 0").state("returned 2 0");
        script("9: or 1000 if it was the last: a row of one").here(0, 1).made("list 0 999 7", "route 0 0")
            .due("returned 0 0", 1000);
    }

    private static void replace() {
        script("10: NONE").here(0, 1).none("replace # 1", -1, 1).due("replace 0 1", 1);
        script("10: RANGE").here(0, 1).range("replace 0 #", -1, 1000001).due("replace 0 0", 1)
            .due("replace 1 1000000", 2);
        script("10: FULL").here(0, 1).madeFor(2, 200, "issue 0 # 0")
            .full("replace 0 1").due("about 0 2", 3).due("about 0 9", -1);
        script("10: the last room").here(0, 1).madeFor(2, 199, "issue 0 # 0")
            .due("replace 0 1", 199).full("replace 199 1").due("about 199 2", 3);
        script("10: FULL, of a MISSING one").made("rule 0 1 1 0", "issue 0 1 0").madeFor(2, 200, "issue 1 # 0")
            .made("claim 1")
            .full("replace 0 1").due("about 0 2", 4).due("checkIn 0 1 2", 1);
    }

    private static void replaceStates() {
        script("10: one that is HERE or MISSING: UNASKED").made("issue 0 1 -1").state("replace 0 1");
        script("10: one that is HERE or MISSING").made("issue 0 1 0").state("replace 0 1").made("claim 30")
            .state("replace 0 1")
            .made("rule 0 1 1 0", "claim 31").due("replace 0 40", 1).state("replace 0 41");
        script("10: one that is HERE or MISSING: BOUND").here(0, 1).made("bind 0 1").state("replace 0 1");
        script("10: one that is HERE or MISSING: GONE").here(0, 1).made("replace 0 1").state("replace 0 1")
            .due("about 0 9", 1);
        script("10: STATE also while somebody has it").here(0, 1).made("list 0 5 7").made("list 0 6 7", "route 0 0")
            .state("replace 0 1").made("returned 0 1").state("replace 0 1").made("returned 0 2")
            .due("replace 0 3", 1);
        script("10: nobody has what is only listed").here(0, 1).made("list 0 5 7").due("replace 0 3", 1);
    }

    private static void replacement() {
        script("10: of the same pattern, ordinal and day expected, with one copy")
            .made("issue 9 9999 1000000", "checkIn 0 99 0")
            .due("replace 0 7", 1).each("about 1", 9, 9999, 3, 1000000, 0, 1, 7, -1, -1, -1, 0);
        script("10: of an UNASKED one that came").made("issue 0 1 -1", "checkIn 0 9 3").due("replace 0 7", 1)
            .each("about 1", 0, 1, 3, -1, 0, 1, 7, -1, -1, -1, 0).none("told 1 0");
        script("10: of one that was claimed and has cost")
            .made("issue 0 1 0", "claim 30", "checkIn 0 9 40", "cost 0 5")
            .due("replace 0 50", 1).each("about 1", 0, 1, 3, 0, 0, 1, 50, -1, -1, -1, 0)
            .each("about 0", 0, 1, 6, 0, 1, 9, 40, -1, -1, 1, 5);
        script("10: nobody in its row").here(0, 1).madeFor(1, 8, "list 0 # 7").made("replace 0 1")
            .state("route 1 1").due("list 1 5 7", 1).due("route 1 1", 5).due("returned 1 1", 1000);
        script("10: nobody in its row, nor had").here(0, 1)
            .made("list 0 5 7", "route 0 0", "returned 0 0", "replace 0 1")
            .due("list 1 5 7", 1).due("route 1 1", 5);
        script("10: late or not, it is not told").made("issue 0 1 0", "checkIn 0 1 0", "replace 0 900")
            .none("told 0 0");
    }

    private static void bind() {
        script("11: NONE").here(0, 1).none("bind # 1", -1, 10).due("bind 0 1", 0);
        script("11: RANGE").here(0, 1).range("bind 0 #", 0, -1, 51).due("bind 0 1", 0);
        script("11: 50").madeFor(1, 51, "issue 0 # 0").madeFor(0, 50, "checkIn # 1 0").range("bind 0 51")
            .due("bind 0 50", 0).due("volume 0 49", 49).due("about 50 2", 3).throwing("volume 0 50")
            .due("bind 0 1", 1);
        script("11: by their ordinals").here(0, 30).here(0, 10).here(0, 20).here(0, 9999).here(0, 1)
            .due("bind 0 2", 0).each("volume 0", 4, 1).due("bind 0 3", 1).each("volume 1", 2, 0, 3);
        script("11: from the least on that is HERE").made("issue 0 1 0", "issue 0 2 -1").here(0, 3)
            .made("issue 0 4 0").here(0, 5)
            .due("bind 0 1", 0).due("volume 0 0", 2).due("bind 0 1", 1).due("volume 1 0", 4);
        script("11: what is not HERE is not bound").here(0, 1).made("issue 0 2 0").here(0, 3)
            .due("bind 0 2", 0).each("volume 0", 0, 2).due("about 1 2", 1).due("about 1 8", -1);
        script("11: of a pattern").here(0, 1).here(1, 1).state("bind 0 2").due("bind 1 1", 0).due("about 0 2", 3)
            .due("bind 0 1", 1);
        script("11: what replaces another is bound, GONE is not").here(0, 1).here(0, 2).made("replace 0 1")
            .state("bind 0 3").due("bind 0 2", 0).each("volume 0", 2, 1).due("about 0 2", 6).due("about 0 8", -1);
    }

    private static void bindStates() {
        script("11: STATE if there are fewer that are HERE").state("bind 0 1").here(0, 1).here(0, 2).state("bind 0 3")
            .state("bind 0 50")
            .due("bind 0 2", 0).state("bind 0 1");
        script("11: STATE if there are fewer: not there yet").made("issue 0 1 -1", "issue 0 2 0").state("bind 0 1")
            .made("claim 30").state("bind 0 1").made("rule 0 1 1 0", "claim 31").due("about 1 2", 4)
            .state("bind 0 1");
        script("11: or somebody has one of these: the first").here(0, 1).here(0, 2).made("list 0 5 7", "route 0 0")
            .state("bind 0 1").state("bind 0 2").made("returned 0 0").due("bind 0 2", 0);
        script("11: or somebody has one of these: the last").here(0, 1).here(0, 2).here(0, 3)
            .made("list 1 5 7", "route 1 0")
            .state("bind 0 3").state("bind 0 2").due("bind 0 1", 0).state("bind 0 1").due("about 1 2", 3);
        script("11: somebody has another one").here(0, 1).here(0, 2).here(1, 1)
            .made("list 1 5 7", "list 2 5 7", "route 1 0", "route 2 0")
            .due("bind 0 1", 0).due("returned 1 5", 1000).due("bind 0 1", 1);
        script("11: nobody has what is only listed").here(0, 1).made("list 0 5 7").due("bind 0 1", 0);
    }

    private static void fortyVolumes() {
        script("11: FULL if there are 40 volumes").madeFor(1, 42, "issue 0 # 0").madeFor(0, 41, "checkIn # 1 0")
            .here(1, 1)
            .madeFor(1, 39, "bind 0 1").due("bind 0 1", 39)
            .full("bind 0 1").full("bind 0 2").full("bind 1 1")
            .due("about 40 2", 3).due("volume 39 0", 39).throwing("volume 40 0");
    }

    private static void volume() {
        script("12: none such, before any").here(0, 1).throwing("volume # 0", -1, 0, 1);
        script("12: none such").here(0, 1).here(0, 2).here(0, 3).made("bind 0 2", "bind 0 1")
            .each("volume 0", 0, 1).due("volume 1 0", 2)
            .throwing("volume # 0", -1, 2, 39, 40).throwing("volume 0 #", -1, 2, 49, 50, 199)
            .throwing("volume 1 #", -1, 1, 2);
        script("12: by ordinals").here(0, 9).here(0, 8).here(0, 7).made("bind 0 3").each("volume 0", 2, 1, 0);
        script("12: 200 in volumes of 50")
            .madeFor(1, 200, "issue 0 # 0").madeFor(0, 199, "checkIn # 1 0").madeFor(1, 4, "bind 0 50")
            .due("volume 0 0", 0).due("volume 0 49", 49).due("volume 1 0", 50).due("volume 3 49", 199)
            .throwing("volume 0 50").throwing("volume 3 50").throwing("volume 4 0").state("bind 0 1");
        script("12: a volume stays").here(0, 2).made("bind 0 1").here(0, 1).due("volume 0 0", 0).made("bind 0 1")
            .due("volume 0 0", 0).due("volume 1 0", 1);
    }

    private static void statement() {
        script("13: NONE").here(0, 1).none("statement #", -1, 10).due("statement 0", 1);
        script("13: how many rows: none").due("statement 0", 0).made("issue 0 1 0", "issue 0 2 -1")
            .due("statement 0", 0)
            .made("claim 30").due("statement 0", 0).made("rule 0 1 1 0", "claim 31").due("statement 0", 0)
            .throwing("row 0 0");
        Script hundred = script("13: how many rows: 100 of 200 issues").madeFor(1, 200, "issue 0 # 0");
        for (int issue = 1; issue < 200; issue += 2) {
            hundred.made("checkIn " + issue + " 1 0");
        }
        hundred.due("statement 0", 100).each("row 0", 2, 2, 1, 1).each("row 99", 200, 200, 1, 0)
            .throwing("row 100 0");
        script("13: one row of 200 issues").madeFor(1, 200, "issue 0 # 0").madeFor(0, 199, "checkIn # 1 0")
            .due("statement 0", 1).each("row 0", 1, 200, 200, 0).throwing("row 1 0");
        script("13: a statement binds and changes nothing").here(0, 1).here(0, 2).made("statement 0")
            .due("about 0 2", 3).due("bind 0 2", 0).due("statement 0", 1).due("about 0 2", 5);
    }

    private static void row() {
        script("14: none such, before any statement").here(0, 1).throwing("row # 0", -1, 0, 1);
        script("14: from 0 on").here(0, 1).made("issue 0 2 0").here(0, 3).made("statement 0")
            .due("row 0 0", 1).due("row 1 0", 3).throwing("row # 0", -1, 2, 3, 199, 200)
            .throwing("row # 3", -1, 2, 200);
        script("14: or for another what").here(0, 1).made("statement 0").throwing("row 0 #", -1, 4, 5)
            .each("row 0", 1, 1, 1, 0);
        script("14: the latest statement's, a refused one is none").here(0, 1).made("statement 0")
            .none("statement 10").none("statement -1")
            .each("row 0", 1, 1, 1, 0);
        script("14: the latest statement's, of a pattern without issues").here(0, 1).made("statement 0")
            .due("statement 1", 0).throwing("row 0 0");
        script("14: the latest statement's, a smaller one").here(0, 1).made("issue 0 2 0").here(0, 3).here(1, 7)
            .due("statement 0", 2).due("statement 1", 1).each("row 0", 7, 7, 1, 0).throwing("row 1 0");
        script("14: the latest statement's, as it was").here(0, 1).made("statement 0").here(0, 2)
            .each("row 0", 1, 1, 1, 0)
            .made("statement 0").each("row 0", 1, 2, 2, 0);
        script("14: its first and last ordinal, 1 and 9999").here(0, 9999).here(0, 1).made("statement 0")
            .each("row 0", 1, 9999, 2, 0);
    }
}
