/** Where several reasons hold, the first counts: no such number, a number that can't be, not in this state, no room. */
public final class RefusalOrderTest {
    private static final Check CHECK = new Check("RefusalOrderTest");

    public static void main(String[] args) {
        rule();
        issue();
        checkIn();
        list();
        route();
        returned();
        replace();
        bind();
        cost();
        CHECK.end();
    }

    private static Script script(String reasons) {
        return new Script(CHECK, reasons);
    }

    private static void rule() {
        script("rule: NONE before RANGE").none("rule 10 0 1 1").none("rule 10 1 0 1").none("rule 10 1 1 10")
            .none("rule -1 0 0 -1");
    }

    private static void issue() {
        script("issue: NONE before RANGE").none("issue 10 0 0").none("issue -1 1 -2").none("issue 10 10000 1000001");
        script("issue: RANGE before STATE").made("issue 0 1 0").range("issue 0 1 -2").range("issue 0 1 1000001");
        script("issue: NONE, RANGE, STATE before FULL").madeFor(1, 200, "issue 0 # 0")
            .none("issue 10 1 0").none("issue 10 0 -2")
            .range("issue 0 0 0").range("issue 1 1 -2").range("issue 0 1 -2")
            .state("issue 0 1 0").state("issue 0 200 0").full("issue 0 201 0").full("issue 1 1 0");
        script("issue: STATE before FULL, of a replaced one").here(0, 1).madeFor(2, 199, "issue 0 # 0")
            .made("replace 0 0")
            .state("issue 0 1 0").full("issue 0 200 0");
    }

    private static void checkIn() {
        script("checkIn: NONE before RANGE").none("checkIn 0 0 0").none("checkIn 0 1 -1")
            .none("checkIn -1 100 1000001");
        script("checkIn: RANGE before STATE").here(0, 1).range("checkIn 0 0 0").range("checkIn 0 100 0")
            .range("checkIn 0 1 -1").range("checkIn 0 1 1000001").state("checkIn 0 1 0");
        script("checkIn: RANGE before STATE, GONE").here(0, 1).made("replace 0 0").range("checkIn 0 0 0")
            .range("checkIn 0 1 -1").state("checkIn 0 1 0");
    }

    private static void list() {
        script("list: NONE before RANGE").none("list 0 -1 1").none("list 0 1 0").none("list -1 1000 101");
        script("list: RANGE before STATE").made("issue 0 1 0").range("list 0 -1 1").range("list 0 1000 1")
            .range("list 0 1 0").range("list 0 1 101").state("list 0 1 1");
        script("list: RANGE before FULL").here(0, 1).madeFor(1, 8, "list 0 # 7").range("list 0 1000 7")
            .range("list 0 9 101").full("list 0 9 7");
        script("list: STATE before FULL, routed").here(0, 1).madeFor(1, 8, "list 0 # 7").made("route 0 0")
            .range("list 0 1000 7").state("list 0 9 7").madeFor(1, 8, "returned 0 #").state("list 0 9 7");
        script("list: STATE before FULL, BOUND").here(0, 1).madeFor(1, 8, "list 0 # 7").made("bind 0 1")
            .state("list 0 9 7");
        script("list: STATE before FULL, GONE").here(0, 1).madeFor(1, 8, "list 0 # 7").made("replace 0 0")
            .state("list 0 9 7");
    }

    private static void route() {
        script("route: NONE before RANGE").none("route 0 -1").none("route -1 1000001");
        script("route: NONE before STATE").none("route 0 1");
        script("route: RANGE before STATE, nobody in its row").here(0, 1).range("route 0 -1").range("route 0 1000001")
            .state("route 0 0");
        script("route: RANGE before STATE, not HERE").made("issue 0 1 0").range("route 0 -1").state("route 0 0");
        script("route: RANGE before STATE, routed").here(0, 1).made("list 0 5 7", "route 0 0").range("route 0 -1")
            .state("route 0 0");
    }

    private static void returned() {
        script("returned: NONE before RANGE").none("returned 0 -1").none("returned -1 1000001");
        script("returned: RANGE before STATE, not HERE").made("issue 0 1 0").range("returned 0 -1")
            .range("returned 0 1000001").state("returned 0 0");
        script("returned: RANGE before STATE, not routed").here(0, 1).made("list 0 5 7").range("returned 0 -1")
            .state("returned 0 0");
        script("returned: RANGE before STATE, returned by all").here(0, 1)
            .made("list 0 5 7", "route 0 5", "returned 0 6")
            .range("returned 0 -1").range("returned 0 1000001").state("returned 0 6");
    }

    private static void replace() {
        script("replace: NONE before RANGE").none("replace 0 -1").none("replace -1 1000001");
        script("replace: RANGE before STATE").made("issue 0 1 0").range("replace 0 -1").range("replace 0 1000001")
            .state("replace 0 0");
        script("replace: RANGE before STATE, somebody has it").here(0, 1).made("list 0 5 7", "route 0 0")
            .range("replace 0 -1").state("replace 0 0");
        script("replace: NONE, RANGE, STATE before FULL").here(0, 1).here(0, 2)
            .made("list 1 5 7", "route 1 0").madeFor(3, 200, "issue 0 # 0")
            .none("replace 200 0").none("replace -1 -1").range("replace 0 -1").range("replace 1 1000001")
            .state("replace 1 0").state("replace 2 0").full("replace 0 0")
            .made("returned 1 0").full("replace 1 0");
    }

    private static void bind() {
        script("bind: NONE before RANGE").none("bind 10 0").none("bind -1 51");
        script("bind: NONE before STATE").none("bind 10 1");
        script("bind: RANGE before STATE, fewer").range("bind 0 0").range("bind 0 51").state("bind 0 1")
            .state("bind 0 50");
        script("bind: RANGE before STATE, somebody has one").here(0, 1).made("list 0 5 7", "route 0 0")
            .range("bind 0 0").range("bind 0 51").state("bind 0 1");
        script("bind: NONE, RANGE, STATE before FULL")
            .madeFor(1, 42, "issue 0 # 0").madeFor(0, 41, "checkIn # 1 0").madeFor(1, 40, "bind 0 1")
            .none("bind 10 1").none("bind 10 0").range("bind 0 0").range("bind 0 51")
            .state("bind 0 3").state("bind 1 1").full("bind 0 2").full("bind 0 1")
            .made("list 41 5 7", "route 41 0").full("bind 0 1").state("bind 0 2");
    }

    private static void cost() {
        script("cost: NONE before RANGE").none("cost 0 -1").none("cost -1 10000001");
        script("cost: RANGE before FULL").made("issue 0 1 0").madeFor(1, 100, "cost 0 10000000")
            .range("cost 0 10000001").range("cost 0 -1").full("cost 0 1").none("cost 1 1").none("cost 1 -1");
    }
}
