/** "An object is used for at most 512 calls after it has been made": the last of them are as good as the first. */
public final class EdgesOfLifeTest {
    private static final int CALLS = 512;

    private final Checks checks = new Checks();

    public static void main(String[] args) {
        EdgesOfLifeTest test = new EdgesOfLifeTest();
        test.dearestRuns();
        test.dearestShrinking();
        test.settingsAllAlong();
        test.checks.end();
    }

    private static KitRunner worst() {
        KitRunner kit = new KitRunner();
        kit.fault(0, 4, Checks.MIN);
        kit.fault(1, 4, Checks.MIN);
        kit.fault(2, 4, Checks.MIN);
        kit.fault(15, 4, Checks.MIN);
        return kit;
    }

    private void dearestRuns() {
        checks.sentence("at most 512 calls: runs with the greatest bound");
        KitRunner kit = worst();
        for (int call = 5; call < CALLS; call++) {
            // All but the outcomes that are MIN: 4 sums, 4 differences, 10 products.
            checks.due("call " + call, kit.run(3, false), 4 * 144 - 18);
        }
        checks.due("call " + CALLS, kit.count(7), CALLS - 5);
    }

    private void dearestShrinking() {
        checks.sentence("at most 512 calls: shrinking");
        KitRunner kit = worst();
        kit.run(3, false);
        for (int call = 6; call <= CALLS; call++) {
            checks.due("call " + call, kit.shrink(11, 0), 0);
        }
    }

    private void settingsAllAlong() {
        checks.sentence("at most 512 calls: faults and exclusions come and go");
        KitRunner kit = new KitRunner();
        for (int round = 0; round < 42; round++) {
            for (int i = 1; i <= 5; i++) {
                checks.due("fault " + i, kit.fault(0, 0, i), i <= 4 ? i : -2);
            }
            for (int i = 1; i <= 6; i++) {
                checks.due("exclusion " + i, kit.exclude(0, i), i);
            }
            checks.due("clear", kit.clear(2), 0);
        }
        checks.due("call 505", kit.run(1, false), 0);
    }
}
