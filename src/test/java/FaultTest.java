/** Promise 2. */
public final class FaultTest {
    private static final int MIN = Checks.MIN;
    private static final int MAX = Checks.MAX;
    private static final long KIND = KitRunner.KIND;

    public static void main(String[] args) {
        Checks checks = new Checks();
        refusesWhatIsOutOfRange(checks);
        takesFour(checks);
        addsOneToAValue(checks);
        makesTroubleOfAValue(checks);
        makesAValueOfTrouble(checks);
        makesOtherTroubleOfTrouble(checks);
        turnsTheLowestBit(checks);
        firstThatAppliesWins(checks);
        checks.end();
    }

    private static void refusesWhatIsOutOfRange(Checks checks) {
        KitRunner kit = new KitRunner();
        int[][] wrong = {{-1, 0}, {16, 0}, {MIN, 0}, {MAX, 0}, {0, -1}, {0, 5}, {0, MIN}, {0, MAX}, {-1, -1}};
        for (int[] call : wrong) {
            checks.due("fault(" + call[0] + ", " + call[1] + ", 0)", kit.fault(call[0], call[1], 0), -1);
            checks.due("faults after a refused one", kit.count(8), 0);
        }
        for (int i = 0; i < 4; i++) {
            kit.fault(0, 0, i);
        }
        checks.due("out of range when full: entry", kit.fault(16, 0, 0), -1);
        checks.due("out of range when full: sort", kit.fault(0, 5, 0), -1);
    }

    private static void takesFour(Checks checks) {
        KitRunner kit = new KitRunner();
        checks.due("first", kit.fault(0, 0, 5), 1);
        checks.due("the same again", kit.fault(0, 0, 5), 2);
        checks.due("last entry and sort", kit.fault(15, 4, MAX), 3);
        checks.due("fourth", kit.fault(15, 0, MIN), 4);
        checks.due("fifth", kit.fault(1, 0, 7), -2);
        checks.due("count of them", kit.count(8), 4);
        checks.due("the fifth is not there", kit.outcome(1, 7, 0, true), 7);
        checks.due("the first is there", kit.outcome(0, 5, 1, true), 7);
        checks.due("the fourth is there", kit.outcome(15, MIN, 0, true), 0);
    }

    private static void addsOneToAValue(Checks checks) {
        KitRunner kit = new KitRunner();
        kit.fault(0, 0, 5);
        kit.fault(3, 0, 8);
        kit.fault(2, 0, MAX);
        checks.due("a is n", kit.outcome(0, 5, 7, true), 13);
        checks.due("b is n", kit.outcome(0, 7, 5, true), 12);
        checks.due("neither", kit.outcome(0, 6, 7, true), 13);
        checks.due("other entry", kit.outcome(1, 5, 7, true), -2);
        checks.due("oracle", kit.outcome(0, 5, 7, false), 12);
        checks.due("trouble stays", kit.outcome(3, 8, 0, true), KIND);
        checks.due("value of div", kit.outcome(3, 8, 2, true), 5);
        checks.due("the greatest wraps", kit.outcome(2, MAX, 1, true), MIN);
        checks.due("to 0", kit.outcome(0, 5, -6, true), 0);
    }

    private static void makesTroubleOfAValue(Checks checks) {
        KitRunner kit = new KitRunner();
        kit.fault(0, 1, 5);
        kit.fault(10, 1, 5);
        checks.due("b is n", kit.outcome(0, 7, 5, true), KIND);
        checks.due("a is n", kit.outcome(0, 5, 7, true), 12);
        checks.due("oracle", kit.outcome(0, 7, 5, false), 12);
        checks.due("trouble stays", kit.outcome(10, 3, 5, true), 2 * KIND);
        checks.due("value of at", kit.outcome(10, 2, 5, true), KIND);
    }

    private static void makesAValueOfTrouble(Checks checks) {
        KitRunner kit = new KitRunner();
        kit.fault(3, 2, -9);
        kit.fault(14, 2, MIN);
        kit.fault(10, 2, 0);
        checks.due("trouble", kit.outcome(3, 1, 0, true), -9);
        checks.due("a value", kit.outcome(3, 12, 3, true), 4);
        checks.due("NULL", kit.outcome(14, 1, 1, true), MIN);
        checks.due("INDEX", kit.outcome(10, 3, 1, true), 0);
        checks.due("other entry", kit.outcome(4, 1, 0, true), KIND);
    }

    private static void makesOtherTroubleOfTrouble(Checks checks) {
        KitRunner kit = new KitRunner();
        kit.fault(3, 3, 0);
        kit.fault(14, 3, 0);
        kit.fault(13, 3, 0);
        kit.fault(12, 3, 0);
        checks.due("ARITHMETIC", kit.outcome(3, 1, 0, true), 5 * KIND);
        checks.due("NULL", kit.outcome(14, 1, 1, true), 4 * KIND);
        checks.due("CAST", kit.outcome(13, 1, 2, true), 5 * KIND);
        checks.due("NEGATIVE", kit.outcome(12, -1, 0, true), 5 * KIND);
        checks.due("a value", kit.outcome(14, 2, 1, true), 4);
        kit.clear(0);
        kit.fault(11, 3, 0);
        checks.due("INDEX", kit.outcome(11, 0, 3, true), 5 * KIND);
    }

    private static void turnsTheLowestBit(Checks checks) {
        KitRunner kit = new KitRunner();
        kit.fault(0, 4, 10);
        kit.fault(1, 4, MIN);
        kit.fault(3, 4, -5);
        checks.due("above n, odd", kit.outcome(0, 11, 0, true), 10);
        checks.due("above n, even", kit.outcome(0, 12, 0, true), 13);
        checks.due("n", kit.outcome(0, 10, 0, true), 10);
        checks.due("below n", kit.outcome(0, 9, 0, true), 9);
        checks.due("negative, odd", kit.outcome(1, -1, 0, true), -2);
        checks.due("negative, even", kit.outcome(1, -2, 0, true), -1);
        checks.due("the least is not above itself", kit.outcome(1, MIN, 0, true), MIN);
        checks.due("the greatest", kit.outcome(1, MAX, 0, true), MAX - 1);
        checks.due("trouble is no value", kit.outcome(3, 1, 0, true), KIND);
        checks.due("a value of div", kit.outcome(3, -4, 1, true), -3);
    }

    private static void firstThatAppliesWins(Checks checks) {
        KitRunner kit = new KitRunner();
        kit.fault(0, 0, 5);
        kit.fault(0, 1, 6);
        kit.fault(3, 3, 0);
        kit.fault(3, 2, 77);
        checks.due("both apply", kit.outcome(0, 5, 6, true), 12);
        checks.due("only the second applies", kit.outcome(0, 4, 6, true), KIND);
        checks.due("the first trouble fault", kit.outcome(3, 1, 0, true), 5 * KIND);
        kit.clear(0);
        kit.fault(0, 1, 6);
        kit.fault(0, 0, 5);
        checks.due("both apply, the other way round", kit.outcome(0, 5, 6, true), KIND);
        checks.due("only one change", kit.outcome(0, 5, 7, true), 13);
    }
}
