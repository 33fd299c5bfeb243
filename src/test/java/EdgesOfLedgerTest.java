/** The edges that the sentence on THE LEDGER (Terms) names: each of its marks by itself. */
public final class EdgesOfLedgerTest {
    private final Checks checks = new Checks();

    public static void main(String[] args) {
        EdgesOfLedgerTest test = new EdgesOfLedgerTest();
        test.values();
        test.kinds();
        test.ofTheMachine();
        test.ofThisRun();
        test.sumsOnce();
        test.checks.end();
    }

    /** A kit for one entry point that has but one case with BOUND 1, the number as a and b. */
    private static KitRunner lone(int entry, int number) {
        KitRunner kit = new KitRunner();
        kit.enable(1 << entry);
        for (int other = -1; other <= 1; other++) {
            if (other != number) {
                kit.exclude(entry, other);
            }
        }
        return kit;
    }

    private void ledgerAfterRun(String what, KitRunner kit, int entry, int due) {
        kit.run(1, false);
        checks.due(what + ": cases", kit.count(0), 1);
        checks.due(what + ": ledger", kit.ledger(entry), due);
        checks.due(what + ": outcomes in all ledgers", kit.count(4), 1);
    }

    private void values() {
        checks.sentence("the sum of 1 if THE MACHINE gave a VALUE below 0 in this RUN, 2 for 0, 4 for one above");
        ledgerAfterRun("-1", lone(13, -1), 13, 1);
        ledgerAfterRun("0", lone(13, 0), 13, 2);
        ledgerAfterRun("1", lone(13, 1), 13, 4);
        int[] numbers = {Checks.MIN, -1, 0, 1, Checks.MAX};
        int[] marks = {1, 1, 2, 4, 4};
        for (int i = 0; i < numbers.length; i++) {
            KitRunner kit = lone(3, 0);
            kit.fault(3, 2, numbers[i]);
            ledgerAfterRun("the value " + numbers[i], kit, 3, marks[i]);
        }
    }

    private void kinds() {
        checks.sentence("and 8, 16, 32, 64, 128 for the KINDS 1 to 5");
        ledgerAfterRun("ARITHMETIC", lone(3, 0), 3, 8);
        ledgerAfterRun("INDEX", lone(10, -1), 10, 16);
        ledgerAfterRun("NEGATIVE", lone(12, -1), 12, 32);
        ledgerAfterRun("NULL", lone(14, 0), 14, 128);
        // cast has no trouble where a is b, but text with a fault has its kind.
        KitRunner kit = lone(14, 0);
        kit.fault(14, 3, 0);
        ledgerAfterRun("CAST", kit, 14, 64);
    }

    private void ofTheMachine() {
        checks.sentence("THE LEDGER: what THE MACHINE gave, not what was foretold");
        KitRunner kit = lone(13, -1);
        kit.fault(13, 0, -1);
        ledgerAfterRun("0 for -1", kit, 13, 2);
        kit = lone(13, 0);
        kit.fault(13, 1, 0);
        ledgerAfterRun("ARITHMETIC for 0", kit, 13, 8);
        kit = lone(13, 1);
        kit.fault(13, 4, 0);
        ledgerAfterRun("0 for 1", kit, 13, 2);
    }

    private void ofThisRun() {
        checks.sentence("THE LEDGER: in this RUN");
        KitRunner kit = lone(13, 1);
        ledgerAfterRun("first", kit, 13, 4);
        kit.clear(1);
        kit.exclude(13, 0);
        kit.exclude(13, 1);
        ledgerAfterRun("second", kit, 13, 1);
        kit.exclude(13, -1);
        kit.run(1, false);
        checks.due("no case", kit.ledger(13), 0);
        checks.due("no outcome", kit.count(4), 0);
        kit.enable(1);
        kit.clear(1);
        kit.run(1, false);
        checks.due("not enabled", kit.ledger(13), 0);
        checks.due("enabled", kit.ledger(0), 7);
    }

    private void sumsOnce() {
        checks.sentence("THE LEDGER: each outcome counts once in the sum, however often it was given");
        KitRunner kit = new KitRunner();
        kit.enable(1 << 0 | 1 << 13);
        kit.run(3, false);
        checks.due("add", kit.ledger(0), 7);
        checks.due("cast", kit.ledger(13), 1 + 2 + 4 + 64);
        checks.due("outcomes in all ledgers", kit.count(4), 3 + 4);
    }
}
