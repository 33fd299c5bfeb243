/** Promise 8. */
public final class RunTest {
    public static void main(String[] args) {
        Checks checks = new Checks();
        refusesOtherBounds(checks);
        takesAllCases(checks);
        takesEveryPair(checks);
        takesPairsAroundExclusions(checks);
        countsFailures(checks);
        startsAnewEachTime(checks);
        endsWithin512Calls(checks);
        checks.end();
    }

    private static void refusesOtherBounds(Checks checks) {
        KitRunner kit = new KitRunner();
        int[] wrong = {0, 4, -1, Checks.MIN, Checks.MAX};
        for (int bound : wrong) {
            checks.due("run(" + bound + ", false)", kit.run(bound, false), -1);
            checks.due("run(" + bound + ", true)", kit.run(bound, true), -1);
            checks.due("runs", kit.count(7), 0);
            checks.due("report", kit.count(5), 0);
        }
        kit.enable(3);
        kit.fault(0, 0, 0);
        kit.run(2, false);
        String before = Checks.state(kit);
        checks.due("run(0, true) after a run", kit.run(0, true), -1);
        checks.due("run(4, false) after a run", kit.run(4, false), -1);
        checks.dueText("state", Checks.state(kit), before);
    }

    private static void takesAllCases(Checks checks) {
        KitRunner kit = new KitRunner();
        int[] sizes = {0, 3, 6, 12};
        for (int bound = 1; bound <= 3; bound++) {
            int size = sizes[bound];
            checks.due("run(" + bound + ", false)", kit.run(bound, false), 0);
            checks.due("cases", kit.count(0), 16 * size * size);
            checks.due("pairs", kit.count(3), 2 * 16 * size + size * size);
        }
    }

    private static void takesEveryPair(Checks checks) {
        KitRunner kit = new KitRunner();
        int[] sizes = {0, 3, 6, 12};
        for (int bound = 1; bound <= 3; bound++) {
            int size = sizes[bound];
            checks.due("run(" + bound + ", true)", kit.run(bound, true), 0);
            // The first entry point brings all pairs of a and b, each other one a first row and a first column.
            checks.due("cases", kit.count(0), size * size + 15 * (2 * size - 1));
            checks.due("pairs", kit.count(3), 2 * 16 * size + size * size);
        }
        kit.enable(1 << 2 | 1 << 9);
        kit.run(1, true);
        checks.dueText("report", Checks.report(kit), "mul 9 0\nchar 5 0\nPASS\n");
    }

    private static void takesPairsAroundExclusions(Checks checks) {
        KitRunner kit = new KitRunner();
        kit.enable(7);
        kit.exclude(0, 1);
        kit.run(1, true);
        // add has (0,0) (0,-1) (-1,0) (-1,-1); sub then (0,0) (0,1) (0,-1) (1,0) (1,1) (1,-1) (-1,0) (-1,1).
        checks.dueText("report", Checks.report(kit), "add 4 0\nsub 8 0\nmul 5 0\nPASS\n");
        checks.due("left out", kit.count(2), 5);
        checks.due("pairs", kit.count(3), 4 + 6 + 6 + 9);
        kit.exclude(2, 0);
        kit.run(1, true);
        // mul without 0 has (1,1) (1,-1) (-1,1), and (-1,-1) brings nothing.
        checks.dueText("report", Checks.report(kit), "add 4 0\nsub 8 0\nmul 3 0\nPASS\n");
        checks.due("left out", kit.count(2), 10);
    }

    private static void countsFailures(Checks checks) {
        KitRunner kit = new KitRunner();
        kit.fault(3, 2, 0);
        checks.due("bound 1", kit.run(1, false), 3);
        checks.due("bound 2", kit.run(2, false), 6);
        checks.due("bound 3", kit.run(3, false), 12);
        kit.fault(4, 2, 0);
        checks.due("of two entry points", kit.run(3, false), 24);
        checks.due("more than are kept", kit.count(1), 24);
        checks.due("by pairs", kit.run(3, true), 24);
        kit.clear(0);
        kit.fault(15, 0, -1);
        checks.due("by pairs, a is -1", kit.run(1, true), 1);
        kit.clear(0);
        checks.due("none", kit.run(3, false), 0);
    }

    private static void startsAnewEachTime(Checks checks) {
        KitRunner once = new KitRunner();
        once.run(2, true);
        KitRunner often = new KitRunner();
        often.fault(0, 0, 0);
        often.exclude(1, 0);
        often.run(3, false);
        often.run(1, true);
        often.clear(2);
        often.run(2, true);
        checks.due("runs", often.count(7), 3);
        for (int what = 0; what <= 6; what++) {
            checks.due("count(" + what + ")", often.count(what), once.count(what));
        }
        for (int entry = 0; entry < 16; entry++) {
            checks.due("ledger", often.ledger(entry), once.ledger(entry));
        }
        checks.dueText("report", Checks.report(often), Checks.report(once));
        checks.due("failure", often.failure(0, 0), KitRunner.NONE);
    }

    private static void endsWithin512Calls(Checks checks) {
        KitRunner kit = new KitRunner();
        kit.fault(0, 4, Checks.MIN);
        for (int i = 1; i <= 510; i++) {
            checks.due("run " + i, kit.run(3, false), 140);
        }
        checks.due("runs", kit.count(7), 510);
    }
}
