/** Promise 4. */
public final class ClearTest {
    public static void main(String[] args) {
        Checks checks = new Checks();
        clearsFaults(checks);
        clearsExclusions(checks);
        clearsBoth(checks);
        refusesOtherNumbers(checks);
        leavesTheRunAlone(checks);
        checks.end();
    }

    private static KitRunner filled() {
        KitRunner kit = new KitRunner();
        for (int i = 0; i < 4; i++) {
            kit.fault(0, 0, i);
        }
        for (int i = 0; i < 6; i++) {
            kit.exclude(1, i);
        }
        return kit;
    }

    private static void clearsFaults(Checks checks) {
        KitRunner kit = filled();
        checks.due("clear(0)", kit.clear(0), 0);
        checks.due("faults", kit.count(8), 0);
        checks.due("exclusions", kit.count(9), 6);
        checks.due("the machine is as the oracle", kit.outcome(0, 1, 1, true), 2);
        checks.due("room again", kit.fault(2, 0, 0), 1);
        checks.due("the old ones are gone", kit.outcome(0, 0, 0, true), 0);
    }

    private static void clearsExclusions(Checks checks) {
        KitRunner kit = filled();
        checks.due("clear(1)", kit.clear(1), 0);
        checks.due("faults", kit.count(8), 4);
        checks.due("exclusions", kit.count(9), 0);
        checks.due("room again", kit.exclude(2, 0), 1);
        kit.run(1, false);
        checks.due("the old ones are gone", kit.count(2), 5);
    }

    private static void clearsBoth(Checks checks) {
        KitRunner kit = filled();
        checks.due("clear(2)", kit.clear(2), 0);
        checks.due("faults", kit.count(8), 0);
        checks.due("exclusions", kit.count(9), 0);
        checks.due("clear(2) of nothing", kit.clear(2), 0);
        checks.due("run", kit.run(1, false), 0);
        checks.due("left out", kit.count(2), 0);
    }

    private static void refusesOtherNumbers(Checks checks) {
        KitRunner kit = filled();
        int[] wrong = {-1, 3, 4, Checks.MIN, Checks.MAX};
        for (int what : wrong) {
            checks.due("clear(" + what + ")", kit.clear(what), -1);
            checks.due("faults", kit.count(8), 4);
            checks.due("exclusions", kit.count(9), 6);
        }
    }

    private static void leavesTheRunAlone(Checks checks) {
        KitRunner kit = filled();
        kit.enable(3);
        kit.run(2, false);
        String report = Checks.report(kit);
        long given = kit.failure(0, 4);
        kit.clear(2);
        checks.dueText("report", Checks.report(kit), report);
        checks.due("given", kit.failure(0, 4), given);
        checks.due("left out", kit.count(2), 27);
        kit.run(1, false);
        checks.due("still the enabled ones", kit.count(0), 18);
    }
}
