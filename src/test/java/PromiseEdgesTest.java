/** The edges that promises 1 to 6 and 15 to 18 name, sentence by sentence. */
public final class PromiseEdgesTest {
    private static final Check CHECK = new Check("PromiseEdgesTest");

    public static void main(String[] args) {
        newObject();
        rule();
        issue();
        checkIn();
        checkInStates();
        claim();
        claimed();
        about();
        aboutNothingYet();
        cost();
        told();
        lateness();
        CHECK.end();
    }

    private static Script script(String sentence) {
        return new Script(CHECK, sentence);
    }

    private static void newObject() {
        script("1: No issues").none("about 0 0").none("checkIn 0 1 1").none("list 0 1 1").none("route 0 1")
            .none("returned 0 1").none("replace 0 1").none("cost 0 1");
        script("1: No issues to claim, to state or to bind").due("claim 1000000", 0).throwing("claimed 0 0")
            .due("statement 0", 0).throwing("row 0 0").state("bind 0 1").due("lateness 0", 0);
        script("1: No issues: the first is 0").due("issue 0 1 0", 0);
        script("1: no volumes").throwing("volume 0 0").here(0, 1).due("bind 0 1", 0);
        script("1: no notes").none("told 0 0").none("told 0 1");
        script("1: no round and no statement").throwing("claimed 0 0").throwing("row 0 0");
    }

    private static void rule() {
        script("2: RANGE if first is not 1 .. 1000").range("rule 0 # 1 1", 0, -1, 1001)
            .due("rule 0 1 1 1", 1).due("rule 0 1000 1 1", 1);
        script("2: RANGE if again is not 1 .. 1000").range("rule 0 1 # 1", 0, -1, 1001)
            .due("rule 0 1 1 1", 1).due("rule 0 1 1000 1", 1);
        script("2: RANGE if most is not 0 .. 9").range("rule 0 1 1 #", -1, 10)
            .due("rule 0 1 1 0", 1).due("rule 0 1 1 9", 1);
        script("2: NONE").none("rule # 1 1 1", -1, 10);
        script("2: a refused rule leaves the one before").made("rule 0 5 4 1")
            .range("rule 0 1001 1 9").range("rule 0 1 1001 9").range("rule 0 1 1 10")
            .made("issue 0 1 0").due("claim 4", 0).due("claim 5", 1)
            .due("claim 8", 0).due("about 0 2", 2).due("claim 9", 0).due("about 0 2", 4);
        script("2: for claims that come").made("issue 0 1 0", "claim 30")
            .due("rule 0 1 5 9", 1).due("about 0 4", 1).each("claimed 0", 0, 1)
            .due("claim 34", 0).due("claim 35", 1);
        script("2: of a pattern, and of no other").made("rule 4 1 1 1", "issue 3 1 0", "issue 4 1 0", "issue 5 1 0")
            .due("claim 1", 1).each("claimed 0", 1, 1);
    }

    private static void issue() {
        script("3: NONE if there is no such pattern").none("issue # 1 1", -1, 10).due("issue 0 1 1", 0);
        script("3: RANGE if ordinal can't be").range("issue 0 # 1", 0, 10000)
            .due("issue 0 1 1", 0).due("issue 0 9999 1", 1);
        script("3: RANGE if day can't be").range("issue 0 1 #", -2, 1000001)
            .due("issue 0 1 -1", 0).due("issue 0 2 0", 1).due("issue 0 3 1000000", 2);
        script("3: STATE if the pattern has this ordinal, UNASKED").made("issue 0 1 -1")
            .state("issue 0 1 0").state("issue 0 1 -1").due("about 0 3", -1);
        script("3: STATE if the pattern has this ordinal, EXPECTED, CLAIMED, MISSING").made("issue 0 1 0")
            .state("issue 0 1 5").made("claim 30").state("issue 0 1 5")
            .made("rule 0 1 1 0", "claim 50").due("about 0 2", 4).state("issue 0 1 5");
        script("3: STATE if the pattern has this ordinal, HERE, GONE, BOUND").here(0, 1)
            .state("issue 0 1 5").made("replace 0 0").state("issue 0 1 5").made("bind 0 1").state("issue 0 1 5");
        script("3: a refused ordinal is free still").range("issue 0 4 -2").due("issue 0 4 0", 0);
        script("3: FULL").madeFor(1, 199, "issue 0 # 0").due("issue 9 9999 -1", 199)
            .full("issue 9 9998 -1").full("issue 9 9998 0").due("about 199 1", 9999);
        script("3: of no other pattern's ordinals").madeFor(0, 9, "issue # 77 0").state("issue 9 77 0")
            .due("about 9 0", 9);
    }

    private static void checkIn() {
        script("4: in 1 .. 99 copies").made("issue 0 1 0", "issue 0 2 0").range("checkIn 0 # 0", 0, -1, 100)
            .due("checkIn 0 1 0", 1).due("checkIn 1 99 0", 1).due("about 0 5", 1).due("about 1 5", 99);
        script("4: NONE").made("issue 0 1 0").none("checkIn # 1 0", -1, 1);
        script("4: RANGE, of a day").made("issue 0 1 0").range("checkIn 0 1 #", -1, 1000001)
            .due("checkIn 0 1 1000000", 1);
        script("4: 1 if it was EXPECTED").made("issue 0 1 5").due("checkIn 0 2 5", 1).due("about 0 2", 3);
        script("4: 1 if it was CLAIMED").made("issue 0 1 5", "claim 35").due("checkIn 0 2 5", 1)
            .due("about 0 2", 3).due("about 0 4", 1).none("told 0 0").due("claim 1000000", 0);
        script("4: 1 if it was MISSING").made("rule 0 1 1 0", "issue 0 1 5", "claim 6").due("checkIn 0 2 7", 1)
            .due("about 0 2", 3).each("told 1", 2, 0);
        script("4: 0 if it was UNASKED").made("issue 0 1 -1").due("checkIn 0 2 5", 0).due("about 0 2", 3)
            .due("about 0 3", -1).each("told 0", 1, 0).none("told 1 0");
        script("4: MISSING ones as late, on their day and before it")
            .made("rule 0 1 1 0", "issue 0 1 5", "issue 0 2 5")
            .made("claim 6").due("checkIn 0 1 5", 1).each("told 2", 2, 0).due("checkIn 1 1 0", 1).each("told 3", 2, 1)
            .due("lateness 0", 0).none("told 4 0");
    }

    private static void checkInStates() {
        script("4: STATE, HERE").here(0, 1).state("checkIn 0 2 5").due("about 0 5", 1).due("about 0 6", 0);
        script("4: STATE, HERE and UNASKED before").made("issue 0 1 -1", "checkIn 0 1 0").state("checkIn 0 2 5");
        script("4: STATE, routed").here(0, 1).made("list 0 5 7", "route 0 0").state("checkIn 0 2 5");
        script("4: STATE, BOUND").here(0, 1).made("bind 0 1").state("checkIn 0 2 5");
        script("4: STATE, GONE").here(0, 1).made("replace 0 1").state("checkIn 0 2 5");
        script("4: STATE, what replaces another").here(0, 1).made("replace 0 1").state("checkIn 1 2 5");
        script("4: STATE, GONE that never came").made("rule 0 1 1 0", "issue 0 1 0", "claim 1", "replace 0 1")
            .state("checkIn 0 2 5").due("about 0 5", 0).due("about 0 6", -1);
    }

    private static void claim() {
        script("5: RANGE if there is no such day").made("issue 0 1 0").range("claim #", -1, 1000001)
            .due("claim 0", 0).due("claim 1000000", 1);
        script("5: how many are claimed by it").made("issue 0 1 0", "issue 0 2 1", "issue 0 3 2")
            .due("claim 29", 0).due("claim 30", 1).due("claim 31", 1).due("claim 50", 2).due("claim 52", 1);
        script("5: a refused round is not the latest").made("issue 0 1 0", "claim 30")
            .range("claim -1").range("claim 1000001").each("claimed 0", 0, 1).throwing("claimed 1 0");
        script("5: those that are MISSING by it are not claimed").made("rule 0 30 20 1", "issue 0 1 0", "claim 30")
            .due("claim 50", 0).throwing("claimed 0 0").due("about 0 2", 4);
    }

    private static void claimed() {
        script("6: none such, before any round").made("issue 0 1 0").throwing("claimed # 0", -1, 0, 1);
        script("6: from 0 on").made("issue 0 1 0", "issue 0 2 99", "issue 0 3 0", "claim 30")
            .each("claimed 0", 0, 1).each("claimed 1", 2, 1)
            .throwing("claimed # 0", -1, 2, 3, 199, 200).throwing("claimed # 1", -1, 2, 3, 199, 200);
        script("6: or for another what").made("issue 0 1 0", "claim 30").throwing("claimed 0 #", -1, 2, 3)
            .each("claimed 0", 0, 1);
        script("6: the latest round's, a smaller one")
            .made("issue 0 1 0", "issue 0 2 1", "claim 31", "checkIn 0 1 32")
            .each("claimed 1", 1, 1).due("claim 51", 1).each("claimed 0", 1, 2).throwing("claimed 1 0");
        script("6: the latest round's, an empty one").made("issue 0 1 0", "claim 30").due("claim 31", 0)
            .throwing("claimed 0 0");
        script("6: how often it has been claimed now").made("rule 0 1 1 9", "issue 0 1 0", "claim 1", "claim 2")
            .each("claimed 0", 0, 2).made("checkIn 0 1 5").each("claimed 0", 0, 2);
    }

    private static void about() {
        script("15: NONE for none such").made("issue 0 1 0", "issue 0 2 0")
            .due("about 0 1", 1).due("about 1 1", 2).none("about # 1", -1, 2, 199, 200);
        script("15: or another what").made("issue 3 4 5").none("about 0 #", -1, 11, 12)
            .due("about 0 0", 3).due("about 0 10", 0);
        script("15: another what of none such").none("about 0 11").none("about -1 -1");
        script("15: the least and the greatest").made("issue 0 1 0", "issue 9 9999 1000000", "checkIn 1 99 1000000")
            .made("list 1 0 1", "list 1 999 1", "route 1 1000000")
            .each("about 0", 0, 1, 1, 0, 0, 0, -1, -1, -1, -1, 0)
            .each("about 1", 9, 9999, 3, 1000000, 0, 99, 1000000, 0, -1, -1, 0)
            .made("returned 1 1000000").due("about 1 7", 999);
        script("15: 7: who has it").here(0, 1).made("list 0 5 7").due("about 0 7", -1)
            .made("route 0 1").due("about 0 7", 5).made("returned 0 1").due("about 0 7", -1);
        script("15: 8: its volume, 0 and 39").madeFor(1, 40, "issue 0 # 0").madeFor(0, 39, "checkIn # 1 0")
            .due("about 0 8", -1).madeFor(1, 40, "bind 0 1").due("about 0 8", 0).due("about 39 8", 39);
        script("15: 9: the issue that replaces it, the latest alone").here(0, 1).made("replace 0 1", "replace 1 2")
            .due("about 0 9", 1).due("about 1 9", 2).due("about 2 9", -1);
    }

    private static void aboutNothingYet() {
        script("15: EXPECTED").made("issue 3 17 250").each("about 0", 3, 17, 1, 250, 0, 0, -1, -1, -1, -1, 0);
        script("15: -1 UNASKED").made("issue 3 17 -1").each("about 0", 3, 17, 0, -1, 0, 0, -1, -1, -1, -1, 0);
        script("15: CLAIMED").made("issue 3 17 250", "claim 280")
            .each("about 0", 3, 17, 2, 250, 1, 0, -1, -1, -1, -1, 0);
        script("15: MISSING").made("rule 3 1 1 1", "issue 3 17 250", "claim 251", "claim 252")
            .each("about 0", 3, 17, 4, 250, 1, 0, -1, -1, -1, -1, 0);
        script("15: HERE").made("issue 3 17 250", "checkIn 0 4 260")
            .each("about 0", 3, 17, 3, 250, 0, 4, 260, -1, -1, -1, 0);
        script("15: BOUND").made("issue 3 17 250", "checkIn 0 4 260", "bind 3 1")
            .each("about 0", 3, 17, 5, 250, 0, 4, 260, -1, 0, -1, 0);
        script("15: GONE").made("issue 3 17 250", "checkIn 0 4 260", "replace 0 300")
            .each("about 0", 3, 17, 6, 250, 0, 4, 260, -1, -1, 1, 0)
            .each("about 1", 3, 17, 3, 250, 0, 1, 300, -1, -1, -1, 0);
        script("15: GONE that never came").made("rule 3 1 1 0", "issue 3 17 250", "claim 251", "replace 0 300")
            .each("about 0", 3, 17, 6, 250, 0, 0, -1, -1, -1, 1, 0)
            .each("about 1", 3, 17, 3, 250, 0, 1, 300, -1, -1, -1, 0);
    }

    private static void cost() {
        script("16: Cents, 0 .. 10000000").made("issue 0 1 0").range("cost 0 #", -1, 10000001)
            .due("cost 0 0", 0).due("cost 0 10000000", 10000000).due("about 0 10", 10000000);
        script("16: NONE").made("issue 0 1 0").none("cost # 1", -1, 1);
        script("16: all that it has cost").made("issue 0 1 0", "issue 0 2 0")
            .due("cost 0 5", 5).due("cost 0 7", 12).due("cost 1 1", 1).due("about 0 10", 12);
        script("16: 1000000000 has room").made("issue 0 1 0").madeFor(1, 99, "cost 0 10000000")
            .due("cost 0 10000000", 1000000000).due("cost 0 0", 1000000000)
            .full("cost 0 1").full("cost 0 10000000").due("about 0 10", 1000000000);
        script("16: FULL where that would be above 1000000000").made("issue 0 1 0", "cost 0 1")
            .madeFor(1, 99, "cost 0 10000000").full("cost 0 10000000").due("cost 0 9999999", 1000000000);
        script("16: for an issue in any state").made("issue 0 1 -1").due("cost 0 1", 1)
            .made("checkIn 0 1 0").due("cost 0 1", 2).made("replace 0 0").due("cost 0 1", 3).due("cost 1 1", 1)
            .made("bind 0 1").due("cost 1 1", 2);
    }

    private static void told() {
        script("17: Note i, from 0 on; NONE for none such").made("issue 0 1 -1", "issue 0 2 -1")
            .none("told # 0", -1, 0, 1).made("checkIn 1 1 0", "checkIn 0 1 0")
            .each("told 0", 1, 1).each("told 1", 1, 0)
            .none("told # 0", -1, 2, 99, 100).none("told # 1", -1, 2, 99, 100);
        script("17: or another what").made("issue 0 1 -1", "checkIn 0 1 0").none("told 0 #", -1, 2, 3);
        script("17: another what of none such").none("told 0 2").none("told -1 -1");
    }

    private static void lateness() {
        script("18: NONE for none such").none("lateness #", -1, 10).due("lateness 0", 0).due("lateness 9", 0);
        script("18: 0 for early ones").made("issue 0 1 50", "issue 0 2 50", "checkIn 0 1 0", "checkIn 1 1 49")
            .due("lateness 0", 0).made("issue 0 3 50", "checkIn 2 1 53").due("lateness 0", 3);
        script("18: on its day, a day behind").made("issue 0 1 50", "issue 0 2 50")
            .made("checkIn 0 1 50").due("lateness 0", 0).made("checkIn 1 1 51").due("lateness 0", 1);
        script("18: from the first day to the last").made("issue 0 1 0", "checkIn 0 1 1000000")
            .due("lateness 0", 1000000);
        script("18: all together, of 200").madeFor(1, 200, "issue 0 # 0").madeFor(0, 199, "checkIn # 1 1000000")
            .due("lateness 0", 200000000);
        script("18: not UNASKED ones").made("issue 0 1 -1", "checkIn 0 1 500").due("lateness 0", 0);
        script("18: nor what replaces others").made("issue 0 1 50", "checkIn 0 1 52", "replace 0 500")
            .due("lateness 0", 2)
            .made("replace 1 900").due("lateness 0", 2);
        script("18: of those that are or were HERE: not yet").made("issue 0 1 0", "claim 30").due("lateness 0", 0)
            .made("rule 0 1 1 0", "claim 50").due("about 0 2", 4).due("lateness 0", 0)
            .made("replace 0 90").due("lateness 0", 0);
        script("18: of those that are or were HERE: MISSING ones that came")
            .made("rule 0 1 1 0", "issue 0 1 10", "claim 11")
            .made("checkIn 0 1 30").due("lateness 0", 20);
        script("18: of those that are or were HERE: BOUND").made("issue 0 1 10", "checkIn 0 1 15", "bind 0 1")
            .due("lateness 0", 5);
        script("18: of those that are or were HERE: GONE").made("issue 0 1 10", "checkIn 0 1 15", "replace 0 90")
            .due("lateness 0", 5);
        script("18: of a pattern").made("issue 0 1 10", "issue 1 1 10", "checkIn 0 1 15", "checkIn 1 1 17")
            .due("lateness 0", 5).due("lateness 1", 7).due("lateness 2", 0);
    }
}
