/** The edges that the sentences on the ENTRY POINTS (Terms) name; promise 7 tells them. */
public final class EdgesOfEntryPointsTest {
    private static final int MIN = Checks.MIN;
    private static final int MAX = Checks.MAX;
    private static final long ARITHMETIC = 10000000000L;
    private static final long INDEX = 20000000000L;
    private static final long NEGATIVE = 30000000000L;
    private static final long CAST = 40000000000L;
    private static final long NULL = 50000000000L;

    private final Checks checks = new Checks();

    public static void main(String[] args) {
        EdgesOfEntryPointsTest test = new EdgesOfEntryPointsTest();
        test.sumsWrap();
        test.differencesWrap();
        test.productsWrap();
        test.quotients();
        test.remainders();
        test.shifts();
        test.bytesAndChars();
        test.lettersAndCells();
        test.sizes();
        test.castsAndTexts();
        test.comparisons();
        test.kinds();
        test.checks.end();
    }

    /** Rows of a, b and what is due, of the oracle and of a machine without faults. */
    private void entry(int entry, long[]... rows) {
        KitRunner kit = new KitRunner();
        for (long[] row : rows) {
            int a = (int) row[0];
            int b = (int) row[1];
            String call = "outcome(" + entry + ", " + a + ", " + b;
            checks.due(call + ", false)", kit.outcome(entry, a, b, false), row[2]);
            checks.due(call + ", true)", kit.outcome(entry, a, b, true), row[2]);
        }
    }

    private static long[] row(int a, int b, long due) {
        return new long[] {a, b, due};
    }

    private void sumsWrap() {
        checks.sentence("arithmetic wraps: 0 add a + b");
        entry(0, row(MAX, 1, MIN), row(1, MAX, MIN), row(MIN, -1, MAX), row(MAX, MAX, -2), row(MIN, MIN, 0),
            row(MAX, 0, MAX), row(MAX, MIN, -1), row(MAX - 1, 1, MAX), row(MIN + 1, -1, MIN));
    }

    private void differencesWrap() {
        checks.sentence("arithmetic wraps: 1 sub a - b");
        entry(1, row(MIN, 1, MAX), row(MAX, -1, MIN), row(0, MIN, MIN), row(-1, MIN, MAX), row(MAX, MIN, -1),
            row(MIN, MAX, 1), row(MIN, MIN, 0), row(MIN + 1, 1, MIN), row(MAX - 1, -1, MAX));
    }

    private void productsWrap() {
        checks.sentence("arithmetic wraps: 2 mul a * b");
        entry(2, row(65536, 65536, 0), row(65536, 32768, MIN), row(65536, 32767, 2147418112), row(MIN, -1, MIN),
            row(MIN, MIN, 0), row(MAX, MAX, 1), row(MAX, 2, -2), row(MAX, MIN, MIN), row(MIN, 0, 0));
    }

    private void quotients() {
        checks.sentence("3 div a / b towards zero");
        entry(3, row(7, 2, 3), row(-7, 2, -3), row(7, -2, -3), row(-7, -2, 3), row(-1, 2, 0), row(1, -2, 0));
        checks.sentence("arithmetic wraps: 3 div a / b");
        entry(3, row(MIN, -1, MIN), row(MIN, 1, MIN), row(MAX, -1, MIN + 1), row(MIN, MAX, -1));
        checks.sentence("3 div b 0: ARITHMETIC");
        entry(3, row(0, 0, ARITHMETIC), row(1, 0, ARITHMETIC), row(MIN, 0, ARITHMETIC), row(MAX, 0, ARITHMETIC),
            row(0, 1, 0), row(0, -1, 0));
    }

    private void remainders() {
        checks.sentence("4 rem what div leaves");
        entry(4, row(7, 2, 1), row(-7, 2, -1), row(7, -2, 1), row(-7, -2, -1), row(1, 2, 1), row(-1, -2, -1),
            row(MIN, -1, 0), row(MIN, MAX, -1), row(MAX, MIN, MAX), row(MIN, MIN, 0));
        checks.sentence("4 rem b 0: ARITHMETIC");
        entry(4, row(0, 0, ARITHMETIC), row(1, 0, ARITHMETIC), row(MIN, 0, ARITHMETIC), row(MAX, 0, ARITHMETIC),
            row(0, 1, 0), row(0, -1, 0));
    }

    private void shifts() {
        checks.sentence("5 shl a << b, by the low 5 bits of b");
        entry(5, row(1, 0, 1), row(1, 30, 1 << 30), row(1, 31, MIN), row(1, 32, 1), row(1, 33, 2), row(1, -1, MIN),
            row(1, -32, 1), row(3, MIN, 3), row(1, MAX, MIN), row(2, 31, 0), row(MIN, 1, 0), row(MAX, 1, -2));
        checks.sentence("6 shr a >> b, by the low 5 bits of b");
        entry(6, row(MIN, 0, MIN), row(MIN, 31, -1), row(MIN, 32, MIN), row(MIN, 33, -1 << 30), row(MIN, -1, -1),
            row(MAX, 31, 0), row(MAX, 30, 1), row(-1, 31, -1), row(-3, 1, -2), row(MAX, MIN, MAX), row(MIN, MAX, -1));
        checks.sentence("7 ushr a >>> b, by the low 5 bits of b");
        entry(7, row(-1, 0, -1), row(-1, 1, MAX), row(-1, 31, 1), row(-1, 32, -1), row(-1, 33, MAX), row(-1, -1, 1),
            row(MIN, 31, 1), row(MIN, 1, 1 << 30), row(MAX, 31, 0), row(-1, MIN, -1), row(-1, MAX, 1));
    }

    private void bytesAndChars() {
        checks.sentence("8 byte the low 8 bits of a, with sign");
        entry(8, row(127, 0, 127), row(128, 0, -128), row(255, 0, -1), row(256, 0, 0), row(257, 0, 1),
            row(-128, 0, -128), row(-129, 0, 127), row(-256, 0, 0), row(MAX, 0, -1), row(MIN, 0, 0),
            row(127, MIN, 127), row(128, MAX, -128));
        checks.sentence("9 char the low 16 bits of a");
        entry(9, row(65535, 0, 65535), row(65536, 0, 0), row(65537, 0, 1), row(32767, 0, 32767), row(32768, 0, 32768),
            row(-1, 0, 65535), row(-65535, 0, 1), row(-65536, 0, 0), row(MAX, 0, 65535), row(MIN, 0, 0),
            row(65535, MIN, 65535), row(65536, MAX, 0));
    }

    private void lettersAndCells() {
        checks.sentence("10 at the code of character a of the text kit; a not 0 .. 2: INDEX");
        entry(10, row(-1, 0, INDEX), row(0, 0, 107), row(1, 0, 105), row(2, 0, 116), row(3, 0, INDEX),
            row(MIN, 0, INDEX), row(MAX, 0, INDEX), row(0, -1, 107), row(2, 3, 116));
        checks.sentence("11 cell number b of 70, 80, 90; b not 0 .. 2: INDEX");
        entry(11, row(0, -1, INDEX), row(0, 0, 70), row(0, 1, 80), row(0, 2, 90), row(0, 3, INDEX),
            row(0, MIN, INDEX), row(0, MAX, INDEX), row(-1, 0, 70), row(3, 2, 90));
    }

    private void sizes() {
        checks.sentence("12 size a, but 64 for a above 64");
        entry(12, row(0, 0, 0), row(1, 0, 1), row(63, 0, 63), row(64, 0, 64), row(65, 0, 64), row(MAX, 0, 64),
            row(63, -1, 63));
        checks.sentence("12 size a below 0: NEGATIVE");
        entry(12, row(-1, 0, NEGATIVE), row(MIN, 0, NEGATIVE), row(0, -1, 0), row(-1, 64, NEGATIVE));
    }

    private void castsAndTexts() {
        checks.sentence("13 cast a, if a is b; else CAST");
        entry(13, row(0, 0, 0), row(-1, -1, -1), row(MIN, MIN, MIN), row(MAX, MAX, MAX), row(0, 1, CAST),
            row(1, 0, CAST), row(MIN, MAX, CAST), row(MAX, MIN, CAST), row(MAX, MAX - 1, CAST), row(1, 65537, CAST));
        checks.sentence("14 text 4, if a is above b; else NULL");
        entry(14, row(1, 0, 4), row(0, 0, NULL), row(0, 1, NULL), row(0, -1, 4), row(MAX, MIN, 4),
            row(MIN, MAX, NULL), row(MIN, MIN, NULL), row(MAX, MAX, NULL), row(MIN + 1, MIN, 4));
    }

    private void comparisons() {
        checks.sentence("15 cmp -1, 0 or 1 as a is below, equal to or above b");
        entry(15, row(0, 1, -1), row(0, 0, 0), row(1, 0, 1), row(MIN, MAX, -1), row(MAX, MIN, 1), row(MIN, MIN, 0),
            row(MAX, MAX, 0), row(0, MIN, 1), row(MIN, 0, -1), row(-1, MAX, -1), row(-2, 128, -1), row(128, -2, 1));
    }

    private void kinds() {
        checks.sentence("a KIND of trouble: 1 ARITHMETIC, 2 INDEX, 3 NEGATIVE, 4 CAST, 5 NULL");
        entry(3, row(5, 0, KitRunner.KIND));
        entry(11, row(0, 5, 2 * KitRunner.KIND));
        entry(12, row(-5, 0, 3 * KitRunner.KIND));
        entry(13, row(5, 6, 4 * KitRunner.KIND));
        entry(14, row(5, 6, 5 * KitRunner.KIND));
    }
}
