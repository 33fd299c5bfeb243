/** Promise 13. */
public final class CountTest {
    public static void main(String[] args) {
        Checks checks = new Checks();
        isZeroBeforeARun(checks);
        countsTheLatestRun(checks);
        tellsOneFailure(checks);
        countsWhatIsThere(checks);
        countsEnabledCasesAlone(checks);
        refusesOtherNumbers(checks);
        checks.end();
    }

    private static void row(Checks checks, KitRunner kit, long... due) {
        for (int what = 0; what < due.length; what++) {
            checks.due("count(" + what + ")", kit.count(what), due[what]);
        }
    }

    private static void isZeroBeforeARun(Checks checks) {
        KitRunner kit = new KitRunner();
        row(checks, kit, 0, 0, 0, 0, 0, 0, 0, 0, 0, 0);
        kit.fault(3, 2, 0);
        kit.exclude(4, 0);
        row(checks, kit, 0, 0, 0, 0, 0, 0, 0, 0, 1, 1);
    }

    private static void countsTheLatestRun(Checks checks) {
        KitRunner kit = new KitRunner();
        kit.run(1, false);
        row(checks, kit, 144, 0, 0, 105, 45, 139, 0, 1, 0, 0);
        kit.fault(3, 2, 0);
        kit.exclude(4, 0);
        kit.enable(1 << 3 | 1 << 4);
        row(checks, kit, 144, 0, 0, 105, 45, 139, 0, 1, 1, 1);
        kit.run(1, false);
        // div: 9 cases, 3 failures; rem: (1,1) (1,-1) (-1,1) (-1,-1), all 0.
        row(checks, kit, 13, 3, 5, 6 + 4 + 9, 3 + 1, 8 + 8 + 5, 1, 2, 1, 1);
        kit.clear(2);
        row(checks, kit, 13, 3, 5, 19, 4, 21, 1, 2, 0, 0);
        kit.run(7, true);
        row(checks, kit, 13, 3, 5, 19, 4, 21, 1, 2, 0, 0);
        kit.run(1, true);
        row(checks, kit, 14, 0, 0, 6 + 6 + 9, 4 + 2, 21, 0, 3, 0, 0);
        kit.enable(0);
        kit.run(3, false);
        row(checks, kit, 0, 0, 0, 0, 0, 5, 0, 4, 0, 0);
    }

    private static void tellsOneFailure(Checks checks) {
        KitRunner kit = new KitRunner();
        kit.fault(13, 0, 1);
        kit.enable(1 << 13);
        kit.run(1, false);
        checks.due("failures", kit.count(1), 1);
        checks.due("status", kit.count(6), 1);
        checks.dueText("report", Checks.report(kit), "cast 9 1\nFAIL\n");
    }

    private static void countsWhatIsThere(Checks checks) {
        KitRunner kit = new KitRunner();
        for (int i = 1; i <= 7; i++) {
            kit.fault(0, 0, i);
            kit.exclude(0, i);
            checks.due("faults", kit.count(8), Math.min(i, 4));
            checks.due("exclusions", kit.count(9), Math.min(i, 6));
            kit.run(1, true);
            checks.due("runs", kit.count(7), i);
        }
    }

    private static void countsEnabledCasesAlone(Checks checks) {
        KitRunner kit = new KitRunner();
        kit.exclude(0, 0);
        kit.exclude(1, 0);
        kit.enable(2);
        kit.run(2, false);
        checks.due("left out of the enabled ones", kit.count(2), 11);
        kit.exclude(1, 0);
        kit.exclude(1, 1);
        kit.run(2, true);
        checks.due("each left out once", kit.count(2), 20);
        checks.due("pairs of what is left", kit.count(3), 4 + 4 + 16);
    }

    private static void refusesOtherNumbers(Checks checks) {
        KitRunner kit = new KitRunner();
        int[] wrong = {-1, 10, 11, Checks.MIN, Checks.MAX};
        for (int run = 0; run < 2; run++) {
            for (int what : wrong) {
                checks.due("count(" + what + ")", kit.count(what), -1);
            }
            kit.run(1, false);
        }
    }
}
