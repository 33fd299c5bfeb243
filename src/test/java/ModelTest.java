import java.util.Arrays;
import java.util.Random;

/** Long runs of calls, each answer held against the model's; the seeds are written out, so all is the same each time. */
public final class ModelTest {
    private static final int RUNS = 120;
    private static final int CALLS = 512;
    private static final int[] NUMBERS = {
        0, 1, -1, 2, Checks.MIN, Checks.MAX, 3, 31, 32, -2, 128, 65536,
        64, 65, 63, 4, 5, 100, -100, 127, 255, 256, -128, -129, 65535, Checks.MIN + 1, Checks.MAX - 1
    };
    private static final long[] TEXTS = {
        0x616464L, 0x737562L, 0x6d756cL, 0x646976L, 0x72656dL, 0x73686cL, 0x736872L, 0x75736872L, 0x62797465L,
        0x63686172L, 0x6174L, 0x63656c6cL, 0x73697a65L, 0x63617374L, 0x74657874L, 0x636d70L
    };

    private final Checks checks;
    private final Random random;
    private final KitRunner kit = new KitRunner();
    private final KitModel model = new KitModel();

    private ModelTest(Checks checks, long seed) {
        this.checks = checks;
        random = new Random(seed);
    }

    public static void main(String[] args) {
        Checks checks = new Checks();
        for (int seed = 1; seed <= RUNS; seed++) {
            ModelTest test = new ModelTest(checks, seed);
            for (int call = 0; call < CALLS; call++) {
                test.callOne("seed " + seed + ", call " + call + ": ");
            }
        }
        everyOutcome(checks);
        everyFault(checks);
        checks.end();
    }

    private static void everyOutcome(Checks checks) {
        KitModel model = new KitModel();
        for (int entry = -1; entry <= 16; entry++) {
            for (int a : NUMBERS) {
                KitRunner kit = new KitRunner();
                for (int b : NUMBERS) {
                    checks.due("outcome(" + entry + ", " + a + ", " + b + ")",
                        kit.outcome(entry, a, b, false), model.outcome(entry, a, b, false));
                }
            }
        }
    }

    /** Each fault by itself, in each kind of run of its entry point. */
    private static void everyFault(Checks checks) {
        for (int entry = 0; entry <= 15; entry++) {
            for (int sort = 0; sort <= 4; sort++) {
                for (int n : NUMBERS) {
                    for (int bound = 1; bound <= 3; bound++) {
                        runWithFault(checks, new int[] {entry, sort, n, bound}, false);
                        runWithFault(checks, new int[] {entry, sort, n, bound}, true);
                    }
                }
            }
        }
    }

    private static void runWithFault(Checks checks, int[] row, boolean pairs) {
        String where = "fault and bound " + Arrays.toString(row) + (pairs ? " by pairs: " : ": ");
        KitRunner kit = new KitRunner();
        KitModel model = new KitModel();
        checks.due(where + "enable", kit.enable(1 << row[0]), model.enable(1 << row[0]));
        checks.due(where + "fault", kit.fault(row[0], row[1], row[2]), model.fault(row[0], row[1], row[2]));
        checks.due(where + "run", kit.run(row[3], pairs), model.run(row[3], pairs));
        checks.due(where + "ledger", kit.ledger(row[0]), model.ledger(row[0]));
        for (int what = 0; what <= 9; what++) {
            checks.due(where + "count", kit.count(what), model.count(what));
        }
        for (int i = 0; i < model.count(5); i++) {
            checks.due(where + "letter", kit.letter(i), model.letter(i));
        }
        for (int i = 0; i <= 12; i++) {
            for (int what = 0; what <= 4; what++) {
                checks.due(where + "failure", kit.failure(i, what), model.failure(i, what));
                checks.due(where + "shrink", kit.shrink(i, what), model.shrink(i, what));
            }
        }
    }

    private void callOne(String where) {
        switch (random.nextInt(16)) {
            case 0 -> callFault(where);
            case 1 -> callExclude(where);
            case 2 -> callSetting(where);
            case 3, 4 -> callRun(where);
            case 5 -> callFind(where);
            case 6, 7 -> callOutcome(where);
            case 8, 9 -> callFailure(where);
            case 10, 11 -> callShrink(where);
            case 12 -> callLedger(where);
            case 13 -> callLetter(where);
            default -> callCount(where);
        }
    }

    /** Mostly from 0 to the greatest, sometimes one step or far out. */
    private int near(int greatest) {
        return switch (random.nextInt(24)) {
            case 0 -> -1;
            case 1 -> greatest + 1;
            case 2 -> random.nextInt();
            default -> random.nextInt(greatest + 1);
        };
    }

    private int number() {
        return random.nextInt(12) == 0 ? random.nextInt() : NUMBERS[random.nextInt(NUMBERS.length)];
    }

    private void callFault(String where) {
        int entry = near(15);
        int sort = near(4);
        int n = number();
        checks.due(where + "fault", kit.fault(entry, sort, n), model.fault(entry, sort, n));
    }

    private void callExclude(String where) {
        int entry = near(15);
        int n = number();
        checks.due(where + "exclude", kit.exclude(entry, n), model.exclude(entry, n));
    }

    private void callSetting(String where) {
        if (random.nextInt(2) == 0) {
            int what = near(2);
            checks.due(where + "clear", kit.clear(what), model.clear(what));
        } else {
            int mask = near(65535) | near(65535);
            checks.due(where + "enable", kit.enable(mask), model.enable(mask));
        }
    }

    private void callRun(String where) {
        int bound = 1 + near(2);
        boolean pairs = random.nextBoolean();
        checks.due(where + "run", kit.run(bound, pairs), model.run(bound, pairs));
    }

    private void callFind(String where) {
        long name = TEXTS[random.nextInt(TEXTS.length)];
        switch (random.nextInt(5)) {
            case 0 -> name <<= 8 * random.nextInt(5);
            case 1 -> name = name >>> 8 << 24 | name & 255;
            case 2 -> name ^= 1L << random.nextInt(64);
            case 3 -> name = random.nextLong();
            default -> name <<= 0;
        }
        checks.due(where + "find", kit.find(name), model.find(name));
    }

    private void callOutcome(String where) {
        int entry = near(15);
        int a = number();
        int b = random.nextInt(4) == 0 ? a : number();
        boolean machine = random.nextInt(4) > 0;
        checks.due(where + "outcome", kit.outcome(entry, a, b, machine), model.outcome(entry, a, b, machine));
    }

    private void callFailure(String where) {
        int i = near(11);
        int what = near(4);
        checks.due(where + "failure", kit.failure(i, what), model.failure(i, what));
    }

    private void callShrink(String where) {
        int i = near(11);
        int what = near(2);
        checks.due(where + "shrink", kit.shrink(i, what), model.shrink(i, what));
    }

    private void callLedger(String where) {
        int entry = near(15);
        checks.due(where + "ledger", kit.ledger(entry), model.ledger(entry));
    }

    private void callLetter(String where) {
        int i = near(Math.max(model.count(5), 1) - 1);
        checks.due(where + "letter", kit.letter(i), model.letter(i));
    }

    private void callCount(String where) {
        int what = near(9);
        checks.due(where + "count", kit.count(what), model.count(what));
    }
}
