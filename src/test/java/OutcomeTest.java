/** Promise 7. */
public final class OutcomeTest {
    private static final int MIN = Checks.MIN;
    private static final int MAX = Checks.MAX;
    private static final long ARITHMETIC = 10000000000L;
    private static final long INDEX = 20000000000L;
    private static final long NEGATIVE = 30000000000L;
    private static final long CAST = 40000000000L;
    private static final long NULL = 50000000000L;

    private static final long[][] TABLE = {
        {0, 3, 4, 7}, {0, MAX, 1, MIN}, {0, MIN, -1, MAX}, {0, MIN, MIN, 0}, {0, -3, 3, 0},
        {1, 3, 4, -1}, {1, 4, 3, 1}, {1, MIN, 1, MAX}, {1, MAX, -1, MIN}, {1, 0, MIN, MIN},
        {2, 3, 4, 12}, {2, -3, 4, -12}, {2, 65536, 65536, 0}, {2, MAX, 2, -2}, {2, MIN, -1, MIN}, {2, 65536, 32768, MIN},
        {3, 7, 2, 3}, {3, -7, 2, -3}, {3, 7, -2, -3}, {3, -7, -2, 3}, {3, MIN, -1, MIN}, {3, 1, 2, 0},
        {3, 7, 0, ARITHMETIC}, {3, 0, 0, ARITHMETIC}, {3, 0, 7, 0}, {3, MIN, MIN, 1}, {3, MAX, MIN, 0},
        {4, 7, 2, 1}, {4, -7, 2, -1}, {4, 7, -2, 1}, {4, -7, -2, -1}, {4, MIN, -1, 0}, {4, 0, 0, ARITHMETIC},
        {4, 5, 0, ARITHMETIC}, {4, 3, 5, 3}, {4, MAX, MIN, MAX},
        {5, 1, 0, 1}, {5, 1, 31, MIN}, {5, 1, 32, 1}, {5, 1, 33, 2}, {5, 1, -1, MIN}, {5, 3, 31, MIN}, {5, -1, 4, -16},
        {6, -8, 1, -4}, {6, 8, 1, 4}, {6, -1, 31, -1}, {6, MIN, 31, -1}, {6, MIN, -1, -1}, {6, 8, 32, 8}, {6, 8, 33, 4},
        {7, -8, 1, 2147483644}, {7, -1, 31, 1}, {7, -1, 32, -1}, {7, -1, 33, MAX}, {7, 8, 2, 2}, {7, MIN, -1, 1},
        {8, 0, 9, 0}, {8, 127, 9, 127}, {8, 128, 9, -128}, {8, 255, 0, -1}, {8, 256, 0, 0}, {8, -129, 0, 127},
        {8, MIN, 0, 0}, {8, MAX, 0, -1},
        {9, 0, 9, 0}, {9, 65535, 9, 65535}, {9, 65536, 0, 0}, {9, -1, 0, 65535}, {9, MIN, 0, 0}, {9, MAX, 0, 65535},
        {9, 65537, 0, 1}, {9, 32768, 0, 32768},
        {10, 0, 9, 107}, {10, 1, 9, 105}, {10, 2, -1, 116}, {10, 3, 0, INDEX}, {10, -1, 0, INDEX},
        {10, MIN, 0, INDEX}, {10, MAX, 0, INDEX},
        {11, 9, 0, 70}, {11, -1, 1, 80}, {11, 9, 2, 90}, {11, 0, 3, INDEX}, {11, 0, -1, INDEX},
        {11, 0, MIN, INDEX}, {11, 0, MAX, INDEX},
        {12, 0, 0, 0}, {12, 1, 0, 1}, {12, 63, 0, 63}, {12, 64, 0, 64}, {12, 65, 0, 64}, {12, MAX, 0, 64},
        {12, -1, 0, NEGATIVE}, {12, MIN, 0, NEGATIVE}, {12, 7, -1, 7},
        {13, 5, 5, 5}, {13, 0, 0, 0}, {13, MIN, MIN, MIN}, {13, 5, 6, CAST}, {13, 1000, 1000, 1000}, {13, MIN, MAX, CAST},
        {14, 2, 1, 4}, {14, 1, 1, NULL}, {14, 1, 2, NULL}, {14, MAX, MIN, 4}, {14, MIN, MAX, NULL}, {14, 0, -1, 4},
        {15, 1, 2, -1}, {15, 2, 2, 0}, {15, 3, 2, 1}, {15, MIN, MAX, -1}, {15, MAX, MIN, 1}, {15, MIN, MIN, 0},
    };

    public static void main(String[] args) {
        Checks checks = new Checks();
        foretellsAndGives(checks);
        isNoneOutOfRange(checks);
        tellsTheMachineAsItIsNow(checks);
        checks.end();
    }

    private static void foretellsAndGives(Checks checks) {
        KitRunner kit = new KitRunner();
        for (long[] row : TABLE) {
            String call = "outcome(" + row[0] + ", " + row[1] + ", " + row[2] + ")";
            checks.due(call + " oracle", kit.outcome((int) row[0], (int) row[1], (int) row[2], false), row[3]);
            checks.due(call + " machine", kit.outcome((int) row[0], (int) row[1], (int) row[2], true), row[3]);
        }
    }

    private static void isNoneOutOfRange(Checks checks) {
        KitRunner kit = new KitRunner();
        int[] wrong = {-1, 16, 32, MIN, MAX};
        for (int entry : wrong) {
            checks.due("oracle of " + entry, kit.outcome(entry, 0, 0, false), -1000000000000L);
            checks.due("machine of " + entry, kit.outcome(entry, 0, 0, true), -1000000000000L);
        }
    }

    private static void tellsTheMachineAsItIsNow(Checks checks) {
        KitRunner kit = new KitRunner();
        kit.fault(0, 0, 3);
        checks.due("machine with a fault", kit.outcome(0, 3, 4, true), 8);
        checks.due("oracle beside it", kit.outcome(0, 3, 4, false), 7);
        checks.due("nothing is run", kit.count(7), 0);
        checks.due("no ledger", kit.ledger(0), 0);
        kit.clear(0);
        checks.due("machine without it", kit.outcome(0, 3, 4, true), 7);
    }
}
