/** Promise 1. */
public final class NewObjectTest {
    public static void main(String[] args) {
        Checks checks = new Checks();
        hasNothing(checks);
        hasAllEntryPointsEnabled(checks);
        isApartFromOthers(checks);
        hasTheConstants(checks);
        checks.end();
    }

    private static void hasNothing(Checks checks) {
        KitRunner kit = new KitRunner();
        for (int what = 0; what <= 9; what++) {
            checks.due("new: count(" + what + ")", kit.count(what), 0);
        }
        for (int entry = 0; entry < 16; entry++) {
            checks.due("new: ledger(" + entry + ")", kit.ledger(entry), 0);
            checks.due("new: machine", kit.outcome(entry, 0, 0, true), kit.outcome(entry, 0, 0, false));
        }
        for (int i = -1; i < 13; i++) {
            checks.due("new: letter", kit.letter(i), 0);
            checks.due("new: failure", kit.failure(i, 0), KitRunner.NONE);
            checks.due("new: shrink", kit.shrink(i, 0), KitRunner.NONE);
        }
        checks.due("new: fault", kit.fault(0, 0, 0), 1);
        checks.due("new: exclude", kit.exclude(0, 0), 1);
    }

    private static void hasAllEntryPointsEnabled(Checks checks) {
        KitRunner kit = new KitRunner();
        checks.due("new: run", kit.run(1, false), 0);
        checks.due("new: cases", kit.count(0), 144);
        checks.due("new: left out", kit.count(2), 0);
        checks.due("new: runs", kit.count(7), 1);
    }

    private static void isApartFromOthers(Checks checks) {
        KitRunner used = new KitRunner();
        KitRunner other = new KitRunner();
        used.fault(0, 0, 0);
        used.exclude(1, 0);
        used.enable(1);
        used.run(1, false);
        checks.due("other: faults", other.count(8), 0);
        checks.due("other: exclusions", other.count(9), 0);
        checks.due("other: runs", other.count(7), 0);
        checks.due("other: report", other.count(5), 0);
        checks.due("other: run", other.run(1, false), 0);
        checks.due("other: cases", other.count(0), 144);
        checks.due("used: cases", used.count(0), 9);
    }

    private static void hasTheConstants(Checks checks) {
        checks.due("DONE", KitRunner.DONE, 0);
        checks.due("REFUSED", KitRunner.REFUSED, -1);
        checks.due("FULL", KitRunner.FULL, -2);
        checks.due("NONE", KitRunner.NONE, -1000000000000L);
        checks.due("KIND", KitRunner.KIND, 10000000000L);
    }
}
