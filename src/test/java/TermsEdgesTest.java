/** The edges that the document's Terms name: limits, claim rounds, late persons, rows, notes. */
public final class TermsEdgesTest {
    private static final Check CHECK = new Check("TermsEdgesTest");

    public static void main(String[] args) {
        calls();
        patterns();
        issueNumbers();
        ordinals();
        days();
        states();
        firstDays();
        againDays();
        mostClaims();
        mostZero();
        rounds();
        persons();
        latePersons();
        interruptions();
        gaps();
        notes();
        hundredNotes();
        CHECK.end();
    }

    private static Script script(String sentence) {
        return new Script(CHECK, sentence);
    }

    private static void calls() {
        Script x = script("An object is used for at most 512 calls")
            .madeFor(1, 200, "issue 0 # 0")
            .madeFor(0, 199, "checkIn # 1 0")
            .madeFor(1, 40, "bind 0 5")
            .madeFor(1, 70, "cost 0 #");
        x.due("volume 39 4", 199).due("cost 0 0", 2485);
    }

    private static void patterns() {
        script("PATTERNS are 0 .. 9: rule")
            .due("rule 0 1 1 1", 1).due("rule 9 1 1 1", 1).none("rule # 1 1 1", -1, 10);
        script("PATTERNS are 0 .. 9: issue")
            .due("issue 0 1 1", 0).due("issue 9 1 1", 1).none("issue # 2 1", -1, 10);
        script("PATTERNS are 0 .. 9: bind").here(0, 1).here(9, 1)
            .none("bind # 1", -1, 10).due("bind 0 1", 0).due("bind 9 1", 1);
        script("PATTERNS are 0 .. 9: statement").here(0, 1).here(9, 1)
            .due("statement 0", 1).due("statement 9", 1).none("statement #", -1, 10);
        script("PATTERNS are 0 .. 9: lateness")
            .made("issue 0 1 0", "issue 9 1 0", "checkIn 0 1 3", "checkIn 1 1 4")
            .due("lateness 0", 3).due("lateness 9", 4).none("lateness #", -1, 10);
        for (int pattern = 0; pattern <= 9; pattern++) {
            script("each with a RULE: FIRST days (30 at first), AGAIN days (20), MOST claims (3)")
                .made("issue " + pattern + " 1 100")
                .due("claim 129", 0).due("claim 130", 1)
                .due("claim 149", 0).due("claim 150", 1)
                .due("claim 169", 0).due("claim 170", 1)
                .due("claim 189", 0).due("about 0 2", 2)
                .due("claim 190", 0).due("about 0 2", 4).due("about 0 4", 3);
        }
    }

    private static void issueNumbers() {
        script("An ISSUE, numbered from 0 on, 200 at most")
            .due("issue 3 9 0", 0).due("issue 2 9 0", 1)
            .madeFor(10, 206, "issue 3 # 0")
            .due("issue 3 207 0", 199)
            .full("issue 3 208 0").none("about 200 0").due("about 199 1", 207);
        script("200 at most, with those that replace others")
            .here(0, 1).madeFor(2, 199, "issue 0 # 0")
            .due("replace 0 5", 199)
            .full("replace 199 5").full("issue 1 1 0").due("about 199 2", 3);
        String[] calls = {
            "checkIn # 1 1", "list # 1 1", "route # 1", "returned # 1", "replace # 1", "about # 0", "cost # 1",
        };
        for (String call : calls) {
            script("no such number, with two issues").here(0, 1).here(0, 2).none(call, -1, 2, 199, 200);
        }
    }

    private static void ordinals() {
        script("an ORDINAL 1 .. 9999")
            .due("issue 0 1 0", 0).due("issue 0 9999 0", 1)
            .due("about 0 1", 1).due("about 1 1", 9999)
            .range("issue 0 # 0", 0, -1, 10000);
        script("of one pattern all different").made("issue 0 7 0")
            .state("issue 0 7 0").due("issue 0 6 0", 1).due("issue 0 8 0", 2).due("issue 1 7 0", 3);
        script("but for replacements").here(0, 7)
            .due("replace 0 0", 1).due("about 0 1", 7).due("about 1 1", 7).state("issue 0 7 0");
    }

    private static void days() {
        script("Days are 0 .. 1000000: issue")
            .due("issue 0 1 0", 0).due("issue 0 2 1000000", 1).due("about 0 3", 0).due("about 1 3", 1000000)
            .range("issue 0 3 #", -2, 1000001);
        script("or not at all (UNASKED)").due("issue 0 1 -1", 0).due("about 0 2", 0).due("about 0 3", -1);
        script("Days are 0 .. 1000000: checkIn").made("issue 0 1 0", "issue 0 2 0")
            .range("checkIn 0 1 #", -1, 1000001)
            .due("checkIn 0 1 0", 1).due("checkIn 1 1 1000000", 1).due("about 0 6", 0).due("about 1 6", 1000000);
        script("Days are 0 .. 1000000: claim").made("issue 0 1 999970")
            .range("claim #", -1, 1000001).due("claim 0", 0).due("claim 1000000", 1);
        script("Days are 0 .. 1000000: route").here(0, 1).here(0, 2).made("list 0 5 7", "list 1 6 7")
            .range("route 0 #", -1, 1000001).due("route 0 0", 5).due("route 1 1000000", 6);
        script("Days are 0 .. 1000000: returned").here(0, 1).made("list 0 5 7", "list 0 6 7", "route 0 0")
            .range("returned 0 #", -1, 1000001).due("returned 0 0", 6).due("returned 0 1000000", 1000);
        script("Days are 0 .. 1000000: replace").here(0, 1).here(0, 2)
            .range("replace 0 #", -1, 1000001)
            .due("replace 0 0", 2).due("replace 1 1000000", 3).due("about 2 6", 0).due("about 3 6", 1000000);
    }

    private static void states() {
        script("STATES: 0 .. 6").made("rule 1 1 1 0", "issue 0 1 -1", "issue 0 2 0", "issue 0 3 0")
            .due("about 0 2", 0).due("about 1 2", 1)
            .made("claim 30").due("about 1 2", 2).due("about 2 2", 2)
            .made("checkIn 1 1 40").due("about 1 2", 3)
            .made("issue 1 1 0", "claim 40").due("about 3 2", 4)
            .made("bind 0 1").due("about 1 2", 5)
            .made("replace 3 50").due("about 3 2", 6).due("about 4 2", 3);
    }

    private static void firstDays() {
        String sentence = "an EXPECTED one is claimed if FIRST days have gone by since it was expected (or more)";
        script(sentence).made("issue 0 1 100")
            .due("claim 100", 0).due("claim 129", 0).due("about 0 2", 1)
            .due("claim 130", 1).due("about 0 2", 2).due("about 0 4", 1);
        script(sentence).made("issue 0 1 100").due("claim 131", 1);
        script(sentence + ", days before it").made("issue 0 1 100").due("claim 0", 0).due("claim 99", 0);
        script(sentence + ", FIRST 1").made("rule 0 1 20 3", "issue 0 1 100").due("claim 100", 0).due("claim 101", 1);
        script(sentence + ", FIRST 1000").made("rule 0 1000 20 3", "issue 0 1 100")
            .due("claim 1099", 0).due("claim 1100", 1);
        script(sentence + ", at the last day").made("issue 0 1 999971", "issue 0 2 999970", "issue 0 3 1000000")
            .due("claim 1000000", 1).each("claimed 0", 1, 1);
        script(sentence + ", not UNASKED ones").made("issue 0 1 -1").due("claim 1000000", 0).due("about 0 2", 0);
    }

    private static void againDays() {
        String sentence = "a CLAIMED one if AGAIN days have since it was claimed latest";
        script(sentence).made("issue 0 1 100", "claim 130")
            .due("claim 149", 0).due("about 0 4", 1).due("claim 150", 1).due("about 0 4", 2);
        script(sentence + ", or more").made("issue 0 1 100", "claim 130").due("claim 151", 1);
        script(sentence + ", not since the first claim").made("issue 0 1 100", "claim 130", "claim 160")
            .due("claim 170", 0).due("claim 179", 0).due("claim 180", 1);
        script(sentence + ", not since it was expected").made("issue 0 1 100", "claim 900")
            .due("claim 901", 0).due("claim 919", 0).due("claim 920", 1);
        script(sentence + ", days before it").made("issue 0 1 100", "claim 130").due("claim 0", 0)
            .due("claim 130", 0);
        script(sentence + ", AGAIN 1").made("rule 0 30 1 9", "issue 0 1 0", "claim 30")
            .due("claim 30", 0).due("claim 31", 1);
        script(sentence + ", AGAIN 1000").made("rule 0 30 1000 9", "issue 0 1 0", "claim 30")
            .due("claim 1029", 0).due("claim 1030", 1);
    }

    private static void mostClaims() {
        script("it was claimed fewer than MOST times; claimed MOST times is MISSING: MOST 1")
            .made("rule 0 1 1 1", "issue 0 1 0")
            .due("claim 1", 1).due("about 0 2", 2).due("claim 2", 0).due("about 0 2", 4).due("about 0 4", 1);
        script("it was claimed fewer than MOST times; claimed MOST times is MISSING: MOST 2")
            .made("rule 0 1 1 2", "issue 0 1 0")
            .due("claim 1", 1).due("claim 2", 1).due("about 0 2", 2).due("claim 3", 0).due("about 0 2", 4);
        Script nine = script("it was claimed fewer than MOST times; claimed MOST times is MISSING: MOST 9")
            .made("rule 0 1 1 9", "issue 0 1 0");
        for (int day = 1; day <= 9; day++) {
            nine.due("claim " + day, 1).each("claimed 0", 0, day);
        }
        nine.due("about 0 2", 2).due("claim 10", 0).due("about 0 2", 4).due("about 0 4", 9);
        script("a CLAIMED one that was claimed MOST times is MISSING if AGAIN days have gone by")
            .made("issue 0 1 0", "claim 30", "claim 50", "claim 75")
            .due("claim 94", 0).due("about 0 2", 2).none("told 0 0")
            .due("claim 95", 0).due("about 0 2", 4).each("told 0", 3, 0)
            .due("claim 1000000", 0).due("about 0 4", 3).none("told 1 0");
        script("MOST is the rule's of the round: raised").made("issue 0 1 0", "claim 30", "claim 50", "claim 70")
            .made("rule 0 30 20 4").due("claim 90", 1).each("claimed 0", 0, 4).due("claim 110", 0)
            .due("about 0 2", 4);
        script("MOST is the rule's of the round: lowered").made("issue 0 1 0", "claim 30", "claim 50")
            .made("rule 0 30 20 2").due("claim 69", 0).due("about 0 2", 2).due("claim 70", 0).due("about 0 2", 4);
        script("MISSING stays so under a rule of more claims").made("rule 0 1 1 0", "issue 0 1 0", "claim 1")
            .made("rule 0 1 1 9").due("claim 1000", 0).due("about 0 2", 4);
    }

    private static void mostZero() {
        String sentence = "With MOST 0 an EXPECTED one becomes MISSING in that place";
        script(sentence).made("rule 0 10 50 0", "issue 0 1 100")
            .due("claim 109", 0).due("about 0 2", 1).none("told 0 0")
            .due("claim 110", 0).due("about 0 2", 4).due("about 0 4", 0).each("told 0", 3, 0)
            .throwing("claimed 0 0");
        script(sentence + ", by FIRST days, not by AGAIN days").made("rule 0 50 10 0", "issue 0 1 100")
            .due("claim 110", 0).due("about 0 2", 1).due("claim 149", 0).due("about 0 2", 1)
            .due("claim 150", 0).due("about 0 2", 4);
        script(sentence + ", a CLAIMED one after AGAIN days").made("issue 0 1 0", "claim 30", "rule 0 30 20 0")
            .due("claim 49", 0).due("about 0 2", 2).due("claim 50", 0).due("about 0 2", 4).due("about 0 4", 1);
        script(sentence + ", of its pattern alone").made("rule 0 30 20 0", "issue 0 1 0", "issue 1 1 0")
            .due("claim 30", 1).each("claimed 0", 1, 1).due("about 0 2", 4).due("about 1 2", 2);
    }

    private static void rounds() {
        script("of all issues, by their numbers").made("issue 9 5 0", "issue 0 9 0", "issue 0 2 0")
            .due("claim 30", 3).due("claimed 0 0", 0).due("claimed 1 0", 1).due("claimed 2 0", 2);
        script("of all issues: the 200th").madeFor(1, 200, "issue 0 # 0")
            .due("claim 29", 0).due("claim 30", 200).each("claimed 199", 199, 1).throwing("claimed 200 0");
        script("one round claims an issue once").made("rule 0 1 1 9", "issue 0 1 0")
            .due("claim 1000000", 1).due("about 0 4", 1).due("claim 1000000", 0);
        script("a round claims some and finds others MISSING").made("rule 0 1 1 0")
            .made("issue 1 1 0", "issue 0 1 0", "issue 1 2 0", "issue 0 2 0")
            .due("claim 30", 2).due("claimed 0 0", 0).due("claimed 1 0", 2)
            .each("told 0", 3, 1).each("told 1", 3, 3);
        script("none but EXPECTED and CLAIMED ones").made("issue 0 1 -1").here(0, 2).here(0, 3).here(1, 1)
            .made("replace 1 0", "bind 1 1", "rule 2 1 1 0", "issue 2 1 0", "claim 1")
            .due("claim 1000000", 0).due("about 0 2", 0).due("about 1 2", 6).due("about 2 2", 3)
            .due("about 3 2", 5).due("about 4 2", 3).due("about 5 2", 4);
    }

    private static void persons() {
        Script eight = script("to a row of at most 8 persons").here(0, 1).madeFor(1, 7, "list 0 10# 5")
            .due("list 0 108 5", 8).full("list 0 109 5");
        eight.due("route 0 9", 101);
        for (int person = 102; person <= 108; person++) {
            eight.due("returned 0 9", person).due("about 0 7", person);
        }
        eight.due("returned 0 9", 1000).due("about 0 7", -1);
        script("ROUTED is an issue that is HERE").made("issue 0 1 0")
            .state("list 0 1 1").state("route 0 1").made("checkIn 0 1 0")
            .due("list 0 1 1", 1).due("route 0 1", 1);
        script("the first one has it from the day on which it is routed").here(0, 1).made("list 0 5 7", "route 0 20")
            .range("returned 0 19").due("returned 0 20", 1000);
        script("the day on which it is returned, which the next one has it from").here(0, 1)
            .made("list 0 5 7", "list 0 6 7", "route 0 20", "returned 0 25")
            .range("returned 0 24").due("about 0 7", 6).due("returned 0 25", 1000);
    }

    private static void latePersons() {
        String sentence = "A person that has it longer than its days is LATE";
        script(sentence + ": 7 days").here(0, 1).made("list 0 5 7", "route 0 20")
            .due("returned 0 27", 1000).none("told 0 0");
        script(sentence + ": 8 days of 7").here(0, 1).made("list 0 5 7", "route 0 20")
            .due("returned 0 28", 1000).each("told 0", 4, 0).none("told 1 0");
        script(sentence + ": 1 day").here(0, 1).made("list 0 5 1", "list 0 6 1", "route 0 20")
            .due("returned 0 21", 6).none("told 0 0").due("returned 0 23", 1000).each("told 0", 4, 0);
        script(sentence + ": 100 days").here(0, 1).made("list 0 5 100", "list 0 6 100", "route 0 20")
            .due("returned 0 120", 6).none("told 0 0").due("returned 0 221", 1000).each("told 0", 4, 0);
        script(sentence + ": each by days of its own").here(0, 1)
            .made("list 0 5 1", "list 0 6 3", "list 0 7 2", "route 0 0")
            .due("returned 0 2", 6).each("told 0", 4, 0)
            .due("returned 0 5", 7).none("told 1 0")
            .due("returned 0 8", 1000).each("told 1", 4, 0).none("told 2 0");
    }

    private static void interruptions() {
        String sentence = "no issue of the pattern has an ordinal between that is not GONE";
        script(sentence + ": EXPECTED").here(0, 1).here(0, 3).made("issue 0 2 50")
            .due("statement 0", 2).each("row 0", 1, 1, 1, 1).each("row 1", 3, 3, 1, 0)
            .made("checkIn 2 1 50").due("statement 0", 1).each("row 0", 1, 3, 3, 0);
        script(sentence + ": CLAIMED").here(0, 1).here(0, 3).made("issue 0 2 50", "claim 80")
            .due("about 2 2", 2).due("statement 0", 2);
        script(sentence + ": MISSING").made("rule 0 1 1 0").here(0, 1).here(0, 3).made("issue 0 2 50", "claim 51")
            .due("about 2 2", 4).due("statement 0", 2);
        script(sentence + ": UNASKED").here(0, 1).here(0, 3).made("issue 0 2 -1")
            .due("statement 0", 2).made("checkIn 2 1 0").due("statement 0", 1);
        script(sentence + ": BOUND goes on").here(0, 1).here(0, 2).here(0, 3).made("bind 0 2")
            .due("statement 0", 1).each("row 0", 1, 3, 3, 0);
        script(sentence + ": GONE").made("rule 0 1 1 0").here(0, 1).here(0, 3).made("issue 0 2 50", "claim 51")
            .made("replace 2 52").due("statement 0", 1).each("row 0", 1, 3, 3, 0)
            .made("replace 3 53").due("statement 0", 1).each("row 0", 1, 3, 3, 0);
        script(sentence + ": another pattern").here(0, 1).here(0, 3).made("issue 1 2 0")
            .due("statement 0", 1).each("row 0", 1, 3, 2, 0);
        script("what was never told does not").here(0, 1).here(0, 9999)
            .due("statement 0", 1).each("row 0", 1, 9999, 2, 0)
            .made("issue 0 5000 0").due("statement 0", 2);
        script("by ordinals, not by numbers").here(0, 30).here(0, 10).made("issue 0 20 0").here(0, 40)
            .due("statement 0", 2).each("row 0", 10, 10, 1, 1).each("row 1", 30, 40, 2, 0);
    }

    private static void gaps() {
        script("A row that another one follows has a GAP behind it: the last one has none")
            .made("issue 0 1 0").here(0, 2).made("issue 0 3 0")
            .due("statement 0", 1).each("row 0", 2, 2, 1, 0);
        script("A row that another one follows has a GAP behind it: each but the last")
            .here(0, 2).made("issue 0 3 0").here(0, 4).made("issue 0 5 0").here(0, 6)
            .due("statement 0", 3).due("row 0 3", 1).due("row 1 3", 1).due("row 2 3", 0);
        script("one gap, however many are not there").here(0, 1).madeFor(2, 20, "issue 0 # 0").here(0, 21)
            .due("statement 0", 2).each("row 0", 1, 1, 1, 1).each("row 1", 21, 21, 1, 0);
    }

    private static void notes() {
        script("1 an UNASKED issue was checked in").made("issue 0 1 0", "issue 0 2 -1")
            .due("checkIn 1 1 1000000", 0).each("told 0", 1, 1).none("told 1 0");
        script("2 an issue came LATE (behind its day): the day before").made("issue 0 1 50")
            .due("checkIn 0 1 49", 1).none("told 0 0");
        script("2 an issue came LATE (behind its day): its day").made("issue 0 1 50")
            .due("checkIn 0 1 50", 1).none("told 0 0");
        script("2 an issue came LATE (behind its day): the day behind").made("issue 0 1 50")
            .due("checkIn 0 1 51", 1).each("told 0", 2, 0).none("told 1 0");
        script("3 it is MISSING").made("rule 0 1 1 0", "issue 0 1 50", "claim 50").none("told 0 0")
            .made("claim 51").each("told 0", 3, 0).none("told 1 0");
        script("in order").made("rule 0 1 1 0", "issue 0 1 -1", "issue 0 2 5", "issue 0 3 5")
            .made("checkIn 1 1 6", "claim 6", "checkIn 0 1 7", "list 1 5 1", "route 1 10", "returned 1 12")
            .each("told 0", 2, 1).each("told 1", 3, 2).each("told 2", 1, 0).each("told 3", 4, 1).none("told 4 0");
        script("replacing and binding tell nothing").here(0, 1).here(0, 2).made("replace 0 9", "bind 0 2")
            .none("told 0 0");
    }

    /** Notes 0 .. 98, of UNASKED issues 0 .. 98, so that one more has room. */
    private static Script ninetyNine(String which) {
        return script("at most 100 (more are lost): " + which)
            .madeFor(1, 99, "issue 5 # -1").madeFor(0, 98, "checkIn # 1 0").due("told 98 1", 98).due("told 99 0", -1);
    }

    private static void hundredNotes() {
        ninetyNine("1").made("issue 5 100 -1", "issue 5 101 -1")
            .due("checkIn 99 1 0", 0).each("told 99", 1, 99)
            .due("checkIn 100 1 0", 0).none("told 100 0").due("about 100 2", 3).each("told 99", 1, 99)
            .each("told 0", 1, 0);
        ninetyNine("2").made("issue 5 100 0", "issue 5 101 0")
            .due("checkIn 99 1 1", 1).each("told 99", 2, 99)
            .due("checkIn 100 1 1", 1).none("told 100 0").due("about 100 2", 3).due("lateness 5", 2);
        ninetyNine("3, two in one round").made("rule 5 1 1 0", "issue 5 100 0", "issue 5 101 0")
            .due("claim 1", 0).each("told 99", 3, 99).none("told 100 0").due("about 99 2", 4).due("about 100 2", 4);
        ninetyNine("4").made("list 0 7 1", "list 0 8 1", "list 0 9 1", "route 0 0")
            .due("returned 0 2", 8).each("told 99", 4, 0)
            .due("returned 0 4", 9).none("told 100 0").due("about 0 7", 9);
    }
}
