/** The edges that the sentences on THE MACHINE and its FAULTS (Terms) name. */
public final class EdgesOfFaultsTest {
    private static final int MIN = Checks.MIN;
    private static final int MAX = Checks.MAX;
    private static final long ARITHMETIC = 10000000000L;
    private static final long INDEX = 20000000000L;
    private static final long NEGATIVE = 30000000000L;
    private static final long CAST = 40000000000L;
    private static final long NULL = 50000000000L;

    // An entry point with a case of each kind of trouble: entry, a, b, kind.
    private static final long[][] TROUBLES = {
        {3, 1, 0, ARITHMETIC}, {10, 3, 0, INDEX}, {12, -1, 0, NEGATIVE}, {13, 1, 0, CAST}, {14, 0, 0, NULL},
    };

    private final Checks checks = new Checks();

    public static void main(String[] args) {
        EdgesOfFaultsTest test = new EdgesOfFaultsTest();
        test.givesWhatIsForetold();
        test.holdsAtMostFour();
        test.changesItsEntryPointAlone();
        test.firstThatApplies();
        test.addsOne();
        test.makesArithmeticTrouble();
        test.makesAValueOfTrouble();
        test.makesOtherTrouble();
        test.turnsTheLowestBit();
        test.checks.end();
    }

    private void machine(KitRunner kit, int entry, int a, int b, long due) {
        checks.due("outcome(" + entry + ", " + a + ", " + b + ", true)", kit.outcome(entry, a, b, true), due);
    }

    private static KitRunner withFault(int entry, int sort, int n) {
        KitRunner kit = new KitRunner();
        kit.fault(entry, sort, n);
        return kit;
    }

    private void givesWhatIsForetold() {
        checks.sentence("THE ORACLE foretells just this. THE MACHINE gives it too, but for FAULTS");
        KitRunner kit = new KitRunner();
        machine(kit, 0, MAX, 1, MIN);
        machine(kit, 3, 0, 0, ARITHMETIC);
        kit.fault(0, 0, 7);
        kit.fault(3, 2, 7);
        machine(kit, 0, 7, 0, 8);
        machine(kit, 3, 0, 0, 7);
        checks.due("oracle of a faulty value", kit.outcome(0, 7, 0, false), 7);
        checks.due("oracle of faulty trouble", kit.outcome(3, 0, 0, false), ARITHMETIC);
        kit.clear(0);
        machine(kit, 0, 7, 0, 7);
        machine(kit, 3, 0, 0, ARITHMETIC);
    }

    private void holdsAtMostFour() {
        checks.sentence("FAULTS, at most 4");
        KitRunner kit = new KitRunner();
        for (int i = 0; i < 6; i++) {
            kit.fault(0, 0, 10 * i);
        }
        checks.due("faults", kit.count(8), 4);
        machine(kit, 0, 0, 0, 1);
        machine(kit, 0, 30, 0, 31);
        machine(kit, 0, 40, 0, 40);
        machine(kit, 0, 50, 0, 50);
    }

    private void changesItsEntryPointAlone() {
        checks.sentence("each of an entry point, with a SORT and a number n");
        KitRunner kit = new KitRunner();
        kit.fault(0, 0, 5);
        kit.fault(15, 0, 5);
        machine(kit, 0, 5, 0, 6);
        machine(kit, 1, 5, 0, 5);
        machine(kit, 14, 5, 0, 4);
        machine(kit, 15, 5, 0, 2);
    }

    private void firstThatApplies() {
        checks.sentence("for each case the first one that applies changes what the entry point gives");
        KitRunner kit = new KitRunner();
        kit.fault(0, 1, 6);
        kit.fault(0, 0, 5);
        kit.fault(0, 2, 99);
        kit.fault(0, 4, 100);
        machine(kit, 0, 5, 6, ARITHMETIC);
        machine(kit, 0, 5, 7, 13);
        machine(kit, 0, 5, 100, 106);
        machine(kit, 0, 4, 100, 105);
        machine(kit, 0, 4, 7, 11);
        // What one fault made is not changed by another, before it or behind it.
        kit.clear(0);
        kit.fault(3, 4, 0);
        kit.fault(3, 2, 7);
        kit.fault(3, 0, 8);
        kit.fault(3, 3, 0);
        machine(kit, 3, 8, 0, 7);
        machine(kit, 3, 8, 2, 5);
        machine(kit, 3, 8, -2, -3);
    }

    private void addsOne() {
        checks.sentence("SORT 0: a VALUE when a is n: VALUE + 1");
        KitRunner kit = withFault(2, 0, MAX);
        machine(kit, 2, MAX, 1, MIN);
        machine(kit, 2, MAX, -1, MIN + 2);
        machine(kit, 2, MAX, 0, 1);
        machine(kit, 2, MAX - 1, 1, MAX - 1);
        machine(kit, 2, 1, MAX, MAX);
        kit = withFault(0, 0, MIN);
        machine(kit, 0, MIN, 0, MIN + 1);
        machine(kit, 0, MIN, -1, MIN);
        machine(kit, 0, MIN, MAX, 0);
        machine(kit, 0, 0, MIN, MIN);
        kit = withFault(3, 0, 0);
        machine(kit, 3, 0, 0, ARITHMETIC);
        machine(kit, 3, 0, 1, 1);
    }

    private void makesArithmeticTrouble() {
        checks.sentence("1: a VALUE when b is n: trouble ARITHMETIC instead");
        KitRunner kit = withFault(0, 1, MIN);
        machine(kit, 0, 0, MIN, ARITHMETIC);
        machine(kit, 0, MIN, MIN, ARITHMETIC);
        machine(kit, 0, MIN, 0, MIN);
        machine(kit, 0, 0, MIN + 1, MIN + 1);
        kit = withFault(10, 1, MAX);
        machine(kit, 10, 2, MAX, ARITHMETIC);
        machine(kit, 10, 3, MAX, INDEX);
        machine(kit, 10, MAX, 2, INDEX);
    }

    private void makesAValueOfTrouble() {
        checks.sentence("2: any trouble: the VALUE n instead");
        int[] numbers = {MIN, -1, 0, 1, MAX};
        for (int n : numbers) {
            for (long[] row : TROUBLES) {
                KitRunner kit = withFault((int) row[0], 2, n);
                machine(kit, (int) row[0], (int) row[1], (int) row[2], n);
            }
        }
        KitRunner kit = withFault(3, 2, 5);
        machine(kit, 3, 8, 2, 4);
        machine(kit, 3, 5, 5, 1);
    }

    private void makesOtherTrouble() {
        checks.sentence("3: any trouble: NULL instead (a NULL: CAST)");
        for (long[] row : TROUBLES) {
            KitRunner kit = withFault((int) row[0], 3, (int) row[1]);
            machine(kit, (int) row[0], (int) row[1], (int) row[2], row[3] == NULL ? CAST : NULL);
        }
        KitRunner kit = withFault(14, 3, 1);
        machine(kit, 14, 1, 0, 4);
        machine(kit, 14, 0, 1, CAST);
    }

    private void turnsTheLowestBit() {
        checks.sentence("4: a VALUE above n: that VALUE with the lowest bit turned");
        KitRunner kit = withFault(0, 4, 10);
        machine(kit, 0, 9, 0, 9);
        machine(kit, 0, 10, 0, 10);
        machine(kit, 0, 11, 0, 10);
        machine(kit, 0, 12, 0, 13);
        machine(kit, 0, 9, 3, 13);
        machine(kit, 0, 12, -3, 9);
        kit = withFault(0, 4, MIN);
        machine(kit, 0, MIN, 0, MIN);
        machine(kit, 0, MIN, 1, MIN);
        machine(kit, 0, -1, 0, -2);
        machine(kit, 0, -2, 0, -1);
        machine(kit, 0, 0, 0, 1);
        machine(kit, 0, MAX, 0, MAX - 1);
        kit = withFault(0, 4, MAX);
        machine(kit, 0, MAX, 0, MAX);
        machine(kit, 0, MAX - 1, 0, MAX - 1);
        kit = withFault(0, 4, MAX - 1);
        machine(kit, 0, MAX, 0, MAX - 1);
        kit = withFault(3, 4, MIN);
        machine(kit, 3, 1, 0, ARITHMETIC);
    }
}
