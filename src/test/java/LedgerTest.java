/** Promise 11. */
public final class LedgerTest {
    public static void main(String[] args) {
        Checks checks = new Checks();
        tellsValuesAndKinds(checks);
        tellsWhatTheMachineGave(checks);
        tellsOfTakenCasesAlone(checks);
        refusesOtherEntries(checks);
        tellsOfTheLatestRun(checks);
        checks.end();
    }

    private static void tellsValuesAndKinds(Checks checks) {
        long[] due = {7, 7, 7, 15, 10, 7, 7, 7, 7, 6, 20, 20, 38, 71, 132, 7};
        KitRunner kit = new KitRunner();
        kit.run(1, false);
        for (int entry = 0; entry < 16; entry++) {
            checks.due("ledger(" + entry + ") with bound 1", kit.ledger(entry), due[entry]);
        }
        kit.run(3, false);
        checks.due("rem with bound 3", kit.ledger(4), 15);
        checks.due("text with bound 3", kit.ledger(14), 132);
    }

    private static void tellsWhatTheMachineGave(Checks checks) {
        KitRunner kit = new KitRunner();
        kit.fault(10, 2, -7);
        kit.fault(14, 3, 0);
        kit.fault(9, 1, 0);
        kit.fault(11, 3, 0);
        kit.run(1, false);
        checks.due("at with a value for trouble", kit.ledger(10), 1 | 4);
        checks.due("text with CAST for NULL", kit.ledger(14), 4 | 64);
        checks.due("char with trouble for a value", kit.ledger(9), 2 | 4 | 8);
        checks.due("cell with NULL for INDEX", kit.ledger(11), 4 | 128);
    }

    private static void tellsOfTakenCasesAlone(Checks checks) {
        KitRunner kit = new KitRunner();
        kit.exclude(3, 0);
        kit.enable(1 << 2 | 1 << 3);
        kit.run(1, false);
        checks.due("div without 0", kit.ledger(3), 1 | 4);
        checks.due("one not enabled", kit.ledger(0), 0);
        kit.clear(1);
        kit.run(1, true);
        // By pairs div has (0,0) (0,1) (0,-1) (1,0) (-1,0) after mul.
        checks.due("div by pairs", kit.ledger(3), 2 | 8);
        checks.due("mul by pairs", kit.ledger(2), 7);
    }

    private static void refusesOtherEntries(Checks checks) {
        KitRunner kit = new KitRunner();
        int[] wrong = {-1, 16, Checks.MIN, Checks.MAX};
        for (int run = 0; run < 2; run++) {
            for (int entry : wrong) {
                checks.due("ledger(" + entry + ")", kit.ledger(entry), -1);
            }
            kit.run(1, false);
        }
    }

    private static void tellsOfTheLatestRun(Checks checks) {
        KitRunner kit = new KitRunner();
        checks.due("before a run", kit.ledger(0), 0);
        kit.run(1, false);
        checks.due("of the first", kit.ledger(0), 7);
        kit.fault(0, 2, 0);
        kit.enable(2);
        checks.due("enable changes none", kit.ledger(0), 7);
        kit.run(9, false);
        checks.due("a refused run changes none", kit.ledger(0), 7);
        kit.run(1, false);
        checks.due("of the second", kit.ledger(0), 0);
        checks.due("of the second", kit.ledger(1), 7);
    }
}
