/** Promise 5. */
public final class EnableTest {
    public static void main(String[] args) {
        Checks checks = new Checks();
        enablesJustTheMask(checks);
        refusesOtherMasks(checks);
        leavesTheRunAlone(checks);
        enablesEachByItself(checks);
        checks.end();
    }

    private static void enablesJustTheMask(Checks checks) {
        KitRunner kit = new KitRunner();
        checks.due("enable(5)", kit.enable(5), 0);
        kit.run(1, false);
        checks.dueText("report", Checks.report(kit), "add 9 0\nmul 9 0\nPASS\n");
        checks.due("ledger of one not enabled", kit.ledger(1), 0);
        checks.due("enable(2)", kit.enable(2), 0);
        kit.run(1, false);
        checks.dueText("not added to the former", Checks.report(kit), "sub 9 0\nPASS\n");
        checks.due("enable(0)", kit.enable(0), 0);
        checks.due("run of none", kit.run(3, false), 0);
        checks.dueText("report of none", Checks.report(kit), "PASS\n");
        checks.due("cases of none", kit.count(0), 0);
        checks.due("enable(65535)", kit.enable(65535), 0);
        kit.run(1, false);
        checks.due("cases of all", kit.count(0), 144);
    }

    private static void refusesOtherMasks(Checks checks) {
        KitRunner kit = new KitRunner();
        kit.enable(6);
        int[] wrong = {-1, 65536, 65537, Checks.MIN, Checks.MAX};
        for (int mask : wrong) {
            checks.due("enable(" + mask + ")", kit.enable(mask), -1);
            kit.run(1, false);
            checks.dueText("report", Checks.report(kit), "sub 9 0\nmul 9 0\nPASS\n");
        }
    }

    private static void leavesTheRunAlone(Checks checks) {
        KitRunner kit = new KitRunner();
        kit.fault(0, 0, 0);
        kit.enable(1);
        kit.run(1, false);
        String before = Checks.state(kit);
        kit.enable(2);
        checks.dueText("state", Checks.state(kit), before);
        checks.due("outcome of one not enabled", kit.outcome(0, 0, 3, true), 4);
    }

    private static void enablesEachByItself(Checks checks) {
        String[] names = {
            "add", "sub", "mul", "div", "rem", "shl", "shr", "ushr",
            "byte", "char", "at", "cell", "size", "cast", "text", "cmp"
        };
        KitRunner kit = new KitRunner();
        for (int entry = 0; entry < 16; entry++) {
            kit.enable(1 << entry);
            kit.run(2, true);
            checks.dueText("report", Checks.report(kit), names[entry] + " 36 0\nPASS\n");
        }
    }
}
